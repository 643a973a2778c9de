import java.util.ArrayList;
import java.util.HashMap;
import java.util.List;
import java.util.Map;
import java.util.Set;

/** The document once more, in other ways of reckoning than those of Threetwo, to hold the two side by side. */
final class Model {
    /** Every LABEL in its order, found by counting and not by reckoning. */
    private static final List<Integer> LABELS = new ArrayList<>();
    private static final Map<Integer, Integer> PICTURES = new HashMap<>();

    static {
        for (int minute = 0; LABELS.size() < 107892; minute++) {
            for (int second = 0; second < 60; second++) {
                for (int count = 0; count < 30; count++) {
                    boolean out = second == 0 && count <= 1 && minute % 10 != 0;
                    if (!out && LABELS.size() < 107892) {
                        int label = minute * 10000 + second * 100 + count;
                        PICTURES.put(label, LABELS.size());
                        LABELS.add(label);
                    }
                }
            }
        }
    }

    static final class Path {
        final int cost;
        final String places;

        Path(int cost, String places) {
            this.cost = cost;
            this.places = places;
        }

        boolean isBetterThan(Path other) {
            return other == null || cost < other.cost
                    || cost == other.cost && places.compareTo(other.places) < 0;
        }
    }

    private final List<Integer> reel = new ArrayList<>();
    private List<Integer> strip = new ArrayList<>();
    private final List<int[]> notes = new ArrayList<>();
    private final List<List<Integer>> prints = new ArrayList<>();
    private final List<Integer> sizes = new ArrayList<>();
    private int change = 6;
    private int rate = 10;
    private int knocks = 0;

    private static void argument(boolean good) {
        if (!good) {
            throw new IllegalArgumentException();
        }
    }

    private static void index(boolean good) {
        if (!good) {
            throw new IndexOutOfBoundsException();
        }
    }

    private static void state(boolean good) {
        if (!good) {
            throw new IllegalStateException();
        }
    }

    private void field(int field) {
        index(0 <= field && field < strip.size());
    }

    private void printed(int print) {
        index(0 <= print && print < prints.size());
    }

    public int frame(int look) {
        argument(look >= 0 && look <= 99);
        state(reel.size() != 24);
        reel.add(look);
        return reel.size() - 1;
    }

    public int pull(int phase) {
        argument(phase == 0 || phase == 1);
        strip = new ArrayList<>();
        for (int k = 0; k < reel.size(); k++) {
            strip.add(reel.get(k));
            strip.add(reel.get(k));
            if (k % 2 != phase % 2) {
                strip.add(reel.get(k));
            }
        }
        notes.clear();
        return strip.size();
    }

    public int cut(int from, int many) {
        field(from);
        argument(many >= 1 && (long) from + many <= strip.size());
        strip.subList(from, from + many).clear();
        notes.clear();
        return strip.size();
    }

    public int spoil(int field, int look) {
        field(field);
        argument(look >= 0 && look <= 99);
        int had = strip.set(field, look);
        notes.add(new int[] {field, had});
        return had;
    }

    public int heal() {
        if (notes.isEmpty()) {
            return -1;
        }
        int[] note = notes.remove(notes.size() - 1);
        strip.set(note[0], note[1]);
        return note[0];
    }

    public int change(int change) {
        argument(change >= 1 && change <= 20);
        int had = this.change;
        this.change = change;
        return had;
    }

    public int print() {
        state(prints.size() != 3);
        prints.add(new ArrayList<>());
        return prints.size() - 1;
    }

    public int look(int print, int look) {
        printed(print);
        argument(look >= 0 && look <= 99);
        state(prints.get(print).size() != 10);
        prints.get(print).add(look);
        return prints.get(print).size();
    }

    public int rate(int rate) {
        argument(rate >= 1 && rate <= 50);
        int had = this.rate;
        this.rate = rate;
        return had;
    }

    public int size(int size) {
        argument(size >= 0 && size <= 99);
        state(sizes.size() != 20);
        sizes.add(size);
        return sizes.size() - 1;
    }

    public int knock() {
        knocks++;
        return knocks;
    }

    public int ofField(int field, int what) {
        field(field);
        argument(what >= 0 && what <= 3);
        if (what == 0) {
            return strip.get(field);
        }
        if (what == 1) {
            return bestPath(strip, change).places.charAt(field) - '0';
        }
        if (what == 2) {
            int frame = 0;
            for (List<Integer> ones : foundFrames()) {
                if (ones.contains(field)) {
                    return frame;
                }
                frame++;
            }
            throw new AssertionError("a FIELD without a FOUND FRAME");
        }
        return notes.stream().anyMatch(note -> note[0] == field) ? 1 : 0;
    }

    public int found(int frame, int what) {
        List<List<Integer>> frames = foundFrames();
        index(0 <= frame && frame < frames.size());
        argument(what >= 0 && what <= 2);
        List<Integer> ones = frames.get(frame);
        if (what > 0) {
            return what == 1 ? ones.get(0) : ones.size();
        }
        int best = -1;
        int most = 0;
        for (int look = 0; look <= 99; look++) {
            int times = 0;
            for (int field : ones) {
                times += strip.get(field) == look ? 1 : 0;
            }
            if (times > most) {
                most = times;
                best = look;
            }
        }
        return best;
    }

    public int ofPrint(int print, int nth) {
        printed(print);
        argument(nth >= 0);
        return nth < prints.get(print).size() ? prints.get(print).get(nth) : -1;
    }

    public int apart(int one, int other) {
        printed(one);
        printed(other);
        return lay(prints.get(one), prints.get(other), 0, 0, new HashMap<>()).cost;
    }

    public String laying(int one, int other) {
        printed(one);
        printed(other);
        return lay(prints.get(one), prints.get(other), 0, 0, new HashMap<>()).places;
    }

    public int house(int what) {
        argument(what >= 0 && what <= 11);
        int delay = leastDelay();
        int[] all = {reel.size(), strip.size(), notes.size(), change,
            bestPath(strip, change).cost, foundFrames().size(), prints.size(), rate,
            sizes.size(), delay, send(delay)[1], knocks};
        return all[what];
    }

    public String fields() {
        List<Integer> seen = new ArrayList<>();
        StringBuilder text = new StringBuilder();
        for (Integer look : strip) {
            if (!seen.contains(look)) {
                seen.add(look);
            }
            int nth = seen.indexOf(look);
            text.append(nth > 25 ? "?" : "abcdefghijklmnopqrstuvwxyz".substring(nth, nth + 1));
        }
        return text.toString();
    }

    public int label(int picture) {
        argument(picture >= 0 && picture <= 107891);
        return LABELS.get(picture);
    }

    public int picture(int label) {
        return PICTURES.getOrDefault(label, -1);
    }

    public int dry(int delay) {
        argument(delay >= 0 && delay <= 2000);
        return send(delay)[0];
    }

    public int without(int field) {
        field(field);
        List<Integer> rest = new ArrayList<>(strip);
        rest.remove(field);
        return bestPath(rest, change).cost;
    }

    public boolean isSound() {
        return true;
    }

    public long digest() {
        List<Long> all = new ArrayList<>();
        for (int what = 0; what <= 11; what++) {
            all.add((long) house(what));
        }
        for (int field = 0; field < strip.size(); field++) {
            for (int what = 0; what <= 3; what++) {
                all.add((long) ofField(field, what));
            }
        }
        for (int frame = 0; frame < foundFrames().size(); frame++) {
            for (int what = 0; what <= 2; what++) {
                all.add((long) found(frame, what));
            }
        }
        for (int one = 0; one < prints.size(); one++) {
            for (int other = 0; other < prints.size(); other++) {
                all.add((long) apart(one, other));
                all.add((long) laying(one, other).length());
            }
        }
        all.add((long) label(1800 + 977 * strip.size()));
        all.add((long) dry(3));
        all.add((long) fields().length());
        all.add(1L);
        long d = 8311;
        for (long v : all) {
            d = d * 31 + v;
        }
        return d;
    }

    static int costOfPath(List<Integer> looks, String places, int change) {
        int cost = 0;
        for (int field = 1; field < looks.size(); field++) {
            int ahead = places.charAt(field - 1) - '0';
            int place = places.charAt(field) - '0';
            boolean same = looks.get(field).equals(looks.get(field - 1));
            int behindAhead = ahead == 4 ? 0 : ahead + 1;
            if (place != behindAhead) {
                cost += change;
            }
            if ((place == 1 || place == 3 || place == 4) && ahead == place - 1 && !same) {
                cost += 3;
            }
            if ((place == 0 && ahead == 4 || place == 2 && ahead == 1) && same) {
                cost += 1;
            }
        }
        return cost;
    }

    /** From the first FIELD on: by each place the best PATH that ends with it. */
    static Path bestPath(List<Integer> looks, int change) {
        Path[] ends = {new Path(0, ""), null, null, null, null};
        for (int field = 0; field < looks.size(); field++) {
            Path[] longer = new Path[5];
            for (int place = 0; place < 5; place++) {
                for (Path end : ends) {
                    if (end != null) {
                        Path path = grown(end, looks, field, place, change);
                        longer[place] = path.isBetterThan(longer[place]) ? path : longer[place];
                    }
                }
            }
            ends = longer;
        }
        Path best = null;
        for (Path end : ends) {
            best = end != null && end.isBetterThan(best) ? end : best;
        }
        return best;
    }

    private static Path grown(Path path, List<Integer> looks, int field, int place, int change) {
        if (field == 0) {
            return new Path(0, "" + place);
        }
        String two = path.places.substring(field - 1) + place;
        int more = costOfPath(looks.subList(field - 1, field + 1), two, change);
        return new Path(path.cost + more, path.places + place);
    }

    private List<List<Integer>> foundFrames() {
        String places = bestPath(strip, change).places;
        List<List<Integer>> frames = new ArrayList<>();
        for (int field = 0; field < strip.size(); field++) {
            String two = field == 0 ? "" : places.substring(field - 1, field + 1);
            if (!Set.of("01", "23", "34").contains(two)) {
                frames.add(new ArrayList<>());
            }
            frames.get(frames.size() - 1).add(field);
        }
        return frames;
    }

    /** The cost with the signs, those that are told first being tried first. */
    private static Path lay(List<Integer> one, List<Integer> other, int i, int j, Map<Integer, Path> known) {
        if (i == one.size() && j == other.size()) {
            return new Path(0, "");
        }
        if (known.containsKey(i * 100 + j)) {
            return known.get(i * 100 + j);
        }
        Path best = null;
        if (i < one.size() && j < other.size()) {
            int differ = Math.abs(one.get(i) - other.get(j));
            Path rest = lay(one, other, i + 1, j + 1, known);
            best = new Path(rest.cost + Math.min(4, differ), (differ == 0 ? "=" : "~") + rest.places);
        }
        if (i < one.size()) {
            Path rest = lay(one, other, i + 1, j, known);
            best = best == null || rest.cost + 2 < best.cost ? new Path(rest.cost + 2, "1" + rest.places) : best;
        }
        if (j < other.size()) {
            Path rest = lay(one, other, i, j + 1, known);
            best = best == null || rest.cost + 2 < best.cost ? new Path(rest.cost + 2, "2" + rest.places) : best;
        }
        known.put(i * 100 + j, best);
        return best;
    }

    /** Tick by tick: the first picture by which it runs DRY, and the most that it has. */
    private int[] send(int delay) {
        int toCome = 0;
        for (int size : sizes) {
            toCome += size;
        }
        int has = 0;
        int most = 0;
        int next = 0;
        for (int tick = 1; next < sizes.size(); tick++) {
            int comes = Math.min(rate, toCome);
            toCome -= comes;
            has += comes;
            most = Math.max(most, has);
            if (tick > delay) {
                if (has < sizes.get(next)) {
                    return new int[] {next, most};
                }
                has -= sizes.get(next);
                next++;
            }
        }
        return new int[] {-1, most};
    }

    private int leastDelay() {
        int delay = 0;
        while (send(delay)[0] != -1) {
            delay++;
        }
        return delay;
    }
}
