/** A house that mends moving pictures; ../shared/DOC.md tells what each call promises. */
public final class Threetwo {
    private static final int NONE = -1;
    private static final int LOOK_END = 100;
    private static final int REEL_ROOM = 24;
    private static final int FIELD_ROOM = 60;
    private static final int PRINT_ROOM = 3;
    private static final int PRINT_LENGTH = 10;
    private static final int SIZE_ROOM = 20;
    private static final int PICTURES = 107892;

    private final Row reel;
    private final Strip strip;
    private final Rhythm rhythm;
    private final Prints prints;
    private final Buffer buffer;
    private int changeNow;
    private int refused;

    public Threetwo() {
        reel = new Row(REEL_ROOM);
        strip = new Strip();
        rhythm = new Rhythm();
        prints = new Prints();
        buffer = new Buffer();
        changeNow = 6;
        refused = 0;
    }

    public int frame(int look) throws IllegalArgumentException, IllegalStateException {
        requireLook(look);
        int number = reel.add(look);
        if (number == NONE) {
            throw new IllegalStateException("the REEL is full");
        }
        return number;
    }

    public int pull(int phase) throws IllegalArgumentException {
        if (phase != 0 && phase != 1) {
            throw new IllegalArgumentException("PHASE is 0 or 1");
        }
        strip.pullDown(reel, phase);
        rhythm.forget();
        return strip.looks.many();
    }

    public int cut(int from, int many) throws IndexOutOfBoundsException, IllegalArgumentException {
        requireField(from);
        if (many < 1 || many > strip.looks.many() - from) {
            throw new IllegalArgumentException("there are not so many FIELDS to CUT OUT");
        }
        strip.cutOut(from, many);
        rhythm.forget();
        return strip.looks.many();
    }

    public int spoil(int field, int look) throws IndexOutOfBoundsException, IllegalArgumentException {
        requireField(field);
        requireLook(look);
        int before = strip.looks.at(field);
        strip.note(field, look);
        rhythm.forget();
        return before;
    }

    public int heal() {
        int field = strip.takeBack();
        if (field != NONE) {
            rhythm.forget();
        }
        return field;
    }

    public int change(int change) throws IllegalArgumentException {
        if (change < 1 || change > 20) {
            throw new IllegalArgumentException("CHANGE is 1 to 20");
        }
        int before = changeNow;
        changeNow = change;
        rhythm.forget();
        return before;
    }

    public int print() throws IllegalStateException {
        int number = prints.begin();
        if (number == NONE) {
            throw new IllegalStateException("there are three PRINTS");
        }
        return number;
    }

    public int look(int print, int look)
            throws IndexOutOfBoundsException, IllegalArgumentException, IllegalStateException {
        requirePrint(print);
        requireLook(look);
        int place = prints.row(print).add(look);
        if (place == NONE) {
            throw new IllegalStateException("the PRINT is full");
        }
        return place + 1;
    }

    public int rate(int rate) throws IllegalArgumentException {
        if (rate < 1 || rate > 50) {
            throw new IllegalArgumentException("RATE is 1 to 50");
        }
        int before = buffer.rateNow;
        buffer.rateNow = rate;
        return before;
    }

    public int size(int size) throws IllegalArgumentException, IllegalStateException {
        if (size < 0 || size > 99) {
            throw new IllegalArgumentException("a SIZE is 0 to 99");
        }
        int number = buffer.sizes.add(size);
        if (number == NONE) {
            throw new IllegalStateException("there are twenty SIZES");
        }
        return number;
    }

    public int knock() {
        refused++;
        return refused;
    }

    public int ofField(int field, int what) throws IndexOutOfBoundsException, IllegalArgumentException {
        requireField(field);
        rhythm.find(strip.looks, changeNow);
        switch (what) {
            case 0: return strip.looks.at(field);
            case 1: return rhythm.places[field];
            case 2: return rhythm.frameOf[field];
            case 3: return strip.isNoted(field) ? 1 : 0;
            default: throw new IllegalArgumentException("what of a FIELD is 0 to 3");
        }
    }

    public int found(int frame, int what) throws IndexOutOfBoundsException, IllegalArgumentException {
        rhythm.find(strip.looks, changeNow);
        if (frame < 0 || frame >= rhythm.frames) {
            throw new IndexOutOfBoundsException("no such FOUND FRAME");
        }
        switch (what) {
            case 0: return rhythm.frameLooks[frame];
            case 1: return rhythm.firsts[frame];
            case 2: return rhythm.lengths[frame];
            default: throw new IllegalArgumentException("what of a FOUND FRAME is 0 to 2");
        }
    }

    public int ofPrint(int print, int nth) throws IndexOutOfBoundsException, IllegalArgumentException {
        requirePrint(print);
        if (nth < 0) {
            throw new IllegalArgumentException("a place in a PRINT is 0 or above");
        }
        return prints.row(print).at(nth);
    }

    public int apart(int one, int other) throws IndexOutOfBoundsException {
        requirePrint(one);
        requirePrint(other);
        return prints.distance(one, other);
    }

    public String laying(int one, int other) throws IndexOutOfBoundsException {
        requirePrint(one);
        requirePrint(other);
        return textOf(prints.signs, prints.layOut(one, other));
    }

    public int house(int what) throws IllegalArgumentException {
        switch (what) {
            case 0: return reel.many();
            case 1: return strip.looks.many();
            case 2: return strip.notes;
            case 3: return changeNow;
            case 4:
                rhythm.find(strip.looks, changeNow);
                return rhythm.cost;
            case 5:
                rhythm.find(strip.looks, changeNow);
                return rhythm.frames;
            case 6: return prints.many;
            case 7: return buffer.rateNow;
            case 8: return buffer.sizes.many();
            case 9: return buffer.leastDelay();
            case 10: return buffer.peak();
            case 11: return refused;
            default: throw new IllegalArgumentException("what of the house is 0 to 11");
        }
    }

    public String fields() {
        return textOf(strip.signs, strip.nameLooks());
    }

    public int label(int picture) throws IllegalArgumentException {
        if (picture < 0 || picture >= PICTURES) {
            throw new IllegalArgumentException("a picture is 0 to 107891");
        }
        return Labels.labelOf(picture);
    }

    public int picture(int label) {
        return Labels.pictureOf(label);
    }

    public int dry(int delay) throws IllegalArgumentException {
        if (delay < 0 || delay > 2000) {
            throw new IllegalArgumentException("a DELAY is 0 to 2000");
        }
        return buffer.firstDry(delay);
    }

    public int without(int field) throws IndexOutOfBoundsException {
        requireField(field);
        return rhythm.leastCost(strip.allBut(field), changeNow);
    }

    public boolean isSound() {
        return printsAreSound() && bufferIsSound() && framesAreSound() && labelsAreSound();
    }

    public long digest() {
        long d = 8311;
        for (int what = 0; what < 12; what++) {
            d = d * 31 + house(what);
        }
        d = withFields(d);
        d = withFoundFrames(d);
        d = withPrints(d);
        d = d * 31 + label(1800 + 977 * strip.looks.many());
        d = d * 31 + dry(3);
        d = d * 31 + strip.nameLooks();
        return d * 31 + (isSound() ? 1 : 0);
    }

    private static void requireLook(int look) {
        if (look < 0 || look >= LOOK_END) {
            throw new IllegalArgumentException("a LOOK is 0 to 99");
        }
    }

    private void requireField(int field) {
        if (!strip.looks.has(field)) {
            throw new IndexOutOfBoundsException("no such FIELD");
        }
    }

    private void requirePrint(int print) {
        if (!prints.has(print)) {
            throw new IndexOutOfBoundsException("no such PRINT");
        }
    }

    private static String textOf(char[] signs, int many) {
        StringBuilder text = new StringBuilder();
        for (int k = 0; k < many && k < signs.length; k++) {
            text.append(signs[k]);
        }
        return text.toString();
    }

    private boolean printsAreSound() {
        for (int one = 0; one < prints.many; one++) {
            for (int other = 0; other < prints.many; other++) {
                if (!pairIsSound(one, other)) {
                    return false;
                }
            }
        }
        return true;
    }

    private boolean pairIsSound(int one, int other) {
        int direct = prints.distance(one, other);
        if (one == other) {
            return direct == 0;
        }
        if (direct != prints.distance(other, one)) {
            return false;
        }
        for (int third = 0; third < prints.many; third++) {
            if (third != one && third != other
                    && direct > prints.distance(one, third) + prints.distance(third, other)) {
                return false;
            }
        }
        return true;
    }

    private boolean bufferIsSound() {
        int least = buffer.leastDelay();
        return buffer.firstDry(least) == NONE && (least == 0 || buffer.firstDry(least - 1) != NONE);
    }

    private boolean framesAreSound() {
        rhythm.find(strip.looks, changeNow);
        int covered = 0;
        for (int frame = 0; frame < rhythm.frames; frame++) {
            if (rhythm.firsts[frame] != covered) {
                return false;
            }
            covered += rhythm.lengths[frame];
        }
        return covered == strip.looks.many();
    }

    private static boolean labelsAreSound() {
        return Labels.goesBack(1799) && Labels.goesBack(1800) && Labels.goesBack(17981)
                && Labels.goesBack(17982) && Labels.goesBack(107891);
    }

    private long withFields(long start) {
        long d = start;
        for (int field = 0; field < strip.looks.many(); field++) {
            for (int what = 0; what < 4; what++) {
                d = d * 31 + ofField(field, what);
            }
        }
        return d;
    }

    private long withFoundFrames(long start) {
        long d = start;
        for (int frame = 0; frame < rhythm.frames; frame++) {
            for (int what = 0; what < 3; what++) {
                d = d * 31 + found(frame, what);
            }
        }
        return d;
    }

    private long withPrints(long start) {
        long d = start;
        for (int one = 0; one < prints.many; one++) {
            for (int other = 0; other < prints.many; other++) {
                d = d * 31 + prints.distance(one, other);
                d = d * 31 + prints.layOut(one, other);
            }
        }
        return d;
    }

    /** Numbers told one behind the other, up to a room that is set once. */
    private static final class Row {
        private final int[] items;
        private int told;

        Row(int room) {
            items = new int[Math.max(room, 0)];
            told = 0;
        }

        int many() {
            return told;
        }

        boolean has(int nth) {
            return nth >= 0 && nth < told;
        }

        int at(int nth) {
            return nth >= 0 && nth < told ? items[nth] : NONE;
        }

        int add(int item) {
            if (told >= items.length) {
                return NONE;
            }
            items[told] = item;
            told++;
            return told - 1;
        }

        void put(int nth, int item) {
            if (has(nth)) {
                items[nth] = item;
            }
        }

        void clear() {
            told = 0;
        }

        void remove(int from, int many) {
            if (!has(from) || many < 0 || many > told - from) {
                return;
            }
            for (int nth = from + many; nth < told; nth++) {
                items[nth - many] = items[nth];
            }
            told -= many;
        }
    }

    /** The FIELDS that there are, with the notes of what was SPOILT. */
    private static final class Strip {
        /** Each note takes a call, and an object is used for 512 calls. */
        private static final int NOTE_ROOM = 512;
        private static final int LETTERS = 26;

        private final Row looks;
        private final Row rest;
        private final int[] noteFields;
        private final int[] noteLooks;
        private final char[] signs;
        private int notes;

        Strip() {
            looks = new Row(FIELD_ROOM);
            rest = new Row(FIELD_ROOM);
            noteFields = new int[NOTE_ROOM];
            noteLooks = new int[NOTE_ROOM];
            signs = new char[FIELD_ROOM];
            notes = 0;
        }

        void pullDown(Row reel, int phase) {
            looks.clear();
            notes = 0;
            for (int k = 0; k < reel.many(); k++) {
                int gives = (k + phase) % 2 == 0 ? 2 : 3;
                for (int nth = 0; nth < gives; nth++) {
                    looks.add(reel.at(k));
                }
            }
        }

        void cutOut(int from, int many) {
            looks.remove(from, many);
            notes = 0;
        }

        void note(int field, int look) {
            if (notes < NOTE_ROOM) {
                noteFields[notes] = field;
                noteLooks[notes] = looks.at(field);
                notes++;
            }
            looks.put(field, look);
        }

        int takeBack() {
            if (notes <= 0) {
                return NONE;
            }
            notes--;
            int field = noteFields[notes];
            looks.put(field, noteLooks[notes]);
            return field;
        }

        boolean isNoted(int field) {
            for (int nth = 0; nth < notes; nth++) {
                if (noteFields[nth] == field) {
                    return true;
                }
            }
            return false;
        }

        Row allBut(int left) {
            rest.clear();
            for (int field = 0; field < looks.many(); field++) {
                if (field != left) {
                    rest.add(looks.at(field));
                }
            }
            return rest;
        }

        int nameLooks() {
            int unlike = 0;
            for (int field = 0; field < looks.many(); field++) {
                int like = firstLike(field);
                if (like < field) {
                    signs[field] = signs[like];
                } else {
                    signs[field] = unlike < LETTERS ? (char) ('a' + unlike) : '?';
                    unlike++;
                }
            }
            return looks.many();
        }

        private int firstLike(int field) {
            int like = 0;
            while (like < field && looks.at(like) != looks.at(field)) {
                like++;
            }
            return like;
        }
    }

    /** The BEST PATH of FIELDS and the FOUND FRAMES that come of it, kept until something changes. */
    private static final class Rhythm {
        private static final int BEAT = 5;

        /** By FIELD and place: the least that all FIELDS behind that one cost. */
        private final int[] behind;
        private final int[] places;
        private final int[] frameOf;
        private final int[] firsts;
        private final int[] lengths;
        private final int[] frameLooks;
        private int cost;
        private int frames;
        private boolean known;

        Rhythm() {
            behind = new int[FIELD_ROOM * BEAT];
            places = new int[FIELD_ROOM];
            frameOf = new int[FIELD_ROOM];
            firsts = new int[FIELD_ROOM];
            lengths = new int[FIELD_ROOM];
            frameLooks = new int[FIELD_ROOM];
            cost = 0;
            frames = 0;
            known = false;
        }

        void forget() {
            known = false;
        }

        void find(Row looks, int change) {
            if (known) {
                return;
            }
            cost = leastCost(looks, change);
            tracePath(looks, change);
            gatherFrames(looks.many());
            for (int frame = 0; frame < frames; frame++) {
                frameLooks[frame] = commonLook(looks, firsts[frame], lengths[frame]);
            }
            known = true;
        }

        /** Reckons from the last FIELD to the first, so that the path can be told from the first on. */
        int leastCost(Row looks, int change) {
            int last = looks.many() - 1;
            if (last < 0) {
                return 0;
            }
            for (int place = 0; place < BEAT; place++) {
                behind[last * BEAT + place] = 0;
            }
            for (int field = last - 1; field >= 0; field--) {
                boolean alike = looks.at(field) == looks.at(field + 1);
                for (int place = 0; place < BEAT; place++) {
                    int next = bestNext(field, place, alike, change);
                    behind[field * BEAT + place] = step(place, next, alike, change) + behind[(field + 1) * BEAT + next];
                }
            }
            return behind[bestFirst()];
        }

        private void tracePath(Row looks, int change) {
            for (int field = 0; field < looks.many(); field++) {
                if (field == 0) {
                    places[field] = bestFirst();
                } else {
                    boolean alike = looks.at(field - 1) == looks.at(field);
                    places[field] = bestNext(field - 1, places[field - 1], alike, change);
                }
            }
        }

        private int bestFirst() {
            int best = 0;
            for (int place = 1; place < BEAT; place++) {
                if (behind[place] < behind[best]) {
                    best = place;
                }
            }
            return best;
        }

        private int bestNext(int field, int place, boolean alike, int change) {
            int row = (field + 1) * BEAT;
            int best = 0;
            int least = step(place, 0, alike, change) + behind[row];
            for (int next = 1; next < BEAT; next++) {
                int costs = step(place, next, alike, change) + behind[row + next];
                if (costs < least) {
                    best = next;
                    least = costs;
                }
            }
            return best;
        }

        private static int step(int place, int next, boolean alike, int change) {
            if (next != (place + 1) % BEAT) {
                return change;
            }
            if (next == 0 || next == 2) {
                return alike ? 1 : 0;
            }
            return alike ? 0 : 3;
        }

        private boolean beginsFrame(int field) {
            int place = places[field];
            return field == 0 || place == 0 || place == 2 || place != (places[field - 1] + 1) % BEAT;
        }

        private void gatherFrames(int many) {
            frames = 0;
            int start = 0;
            for (int field = 0; field < many; field++) {
                if (beginsFrame(field)) {
                    start = field;
                    firsts[frames] = start;
                    frames++;
                }
                frameOf[field] = frames - 1;
                lengths[frames - 1] = field - start + 1;
            }
        }

        private static int commonLook(Row looks, int first, int length) {
            int common = NONE;
            int most = 0;
            for (int field = first; field < first + length; field++) {
                int look = looks.at(field);
                int times = timesOf(look, looks, first, length);
                if (times > most || times == most && look < common) {
                    common = look;
                    most = times;
                }
            }
            return common;
        }

        private static int timesOf(int look, Row looks, int first, int length) {
            int times = 0;
            for (int field = first; field < first + length; field++) {
                if (looks.at(field) == look) {
                    times++;
                }
            }
            return times;
        }
    }

    /** The PRINTS, and how two of them lie beside each other. */
    private static final class Prints {
        private static final int WIDTH = PRINT_LENGTH + 1;
        private static final int ALONE = 2;
        private static final int MOST_TOGETHER = 4;

        private final Row[] rows;
        /** By a place in each of two PRINTS: the least that laying all from there on costs. */
        private final int[] behind;
        private final char[] signs;
        private int many;

        Prints() {
            rows = new Row[PRINT_ROOM];
            for (int print = 0; print < PRINT_ROOM; print++) {
                rows[print] = new Row(PRINT_LENGTH);
            }
            behind = new int[WIDTH * WIDTH];
            signs = new char[2 * PRINT_LENGTH];
            many = 0;
        }

        int begin() {
            if (many >= PRINT_ROOM) {
                return NONE;
            }
            many++;
            return many - 1;
        }

        boolean has(int print) {
            return print >= 0 && print < many;
        }

        /** Only of a PRINT that there is. */
        Row row(int print) {
            return rows[print];
        }

        int distance(int one, int other) {
            Row first = rows[one];
            Row second = rows[other];
            for (int i = first.many(); i >= 0; i--) {
                for (int j = second.many(); j >= 0; j--) {
                    behind[i * WIDTH + j] = leastFrom(first, second, i, j);
                }
            }
            return behind[0];
        }

        /** Writes the LAYING into the signs and tells how many they are. */
        int layOut(int one, int other) {
            distance(one, other);
            Row first = rows[one];
            Row second = rows[other];
            int i = 0;
            int j = 0;
            int length = 0;
            while (length < signs.length && (first.has(i) || second.has(j))) {
                char sign = signAt(first, second, i, j);
                signs[length] = sign;
                length++;
                i += sign == '2' ? 0 : 1;
                j += sign == '1' ? 0 : 1;
            }
            return length;
        }

        private int leastFrom(Row first, Row second, int i, int j) {
            if (!first.has(i)) {
                return ALONE * (second.many() - j);
            }
            if (!second.has(j)) {
                return ALONE * (first.many() - i);
            }
            int at = i * WIDTH + j;
            int alone = ALONE + Math.min(behind[at + WIDTH], behind[at + 1]);
            return Math.min(together(first.at(i), second.at(j)) + behind[at + WIDTH + 1], alone);
        }

        private char signAt(Row first, Row second, int i, int j) {
            int at = i * WIDTH + j;
            if (first.has(i) && second.has(j)
                    && behind[at] == together(first.at(i), second.at(j)) + behind[at + WIDTH + 1]) {
                return first.at(i) == second.at(j) ? '=' : '~';
            }
            return first.has(i) && behind[at] == ALONE + behind[at + WIDTH] ? '1' : '2';
        }

        private static int together(int look, int other) {
            return Math.min(Math.abs(look - other), MOST_TOGETHER);
        }
    }

    /** LABELS of pictures, reckoned both ways. */
    private static final class Labels {
        private static final int A_SECOND = 30;
        private static final int A_MINUTE = 60 * A_SECOND;
        private static final int A_SHORT_MINUTE = A_MINUTE - 2;
        private static final int TEN_MINUTES = A_MINUTE + 9 * A_SHORT_MINUTE;

        private Labels() {
        }

        static int labelOf(int picture) {
            int minute = picture / TEN_MINUTES * 10;
            int within = picture % TEN_MINUTES;
            if (within >= A_MINUTE) {
                int late = within - A_MINUTE;
                minute += 1 + late / A_SHORT_MINUTE;
                within = 2 + late % A_SHORT_MINUTE;
            }
            return minute * 10000 + within / A_SECOND * 100 + within % A_SECOND;
        }

        static int pictureOf(int label) {
            if (label < 0) {
                return NONE;
            }
            int minute = label / 10000;
            int second = label / 100 % 100;
            int count = label % 100;
            if (minute > 59 || second > 59 || count >= A_SECOND || isLeftOut(minute, second, count)) {
                return NONE;
            }
            int shortMinutes = minute - minute / 10;
            return minute * A_MINUTE + second * A_SECOND + count - 2 * shortMinutes;
        }

        static boolean goesBack(int picture) {
            return pictureOf(labelOf(picture)) == picture;
        }

        private static boolean isLeftOut(int minute, int second, int count) {
            return minute % 10 != 0 && second == 0 && count < 2;
        }
    }

    /** The SIZES that are sent, and the buffer that they come through. */
    private static final class Buffer {
        private final Row sizes;
        private int rateNow;

        Buffer() {
            sizes = new Row(SIZE_ROOM);
            rateNow = 10;
        }

        int firstDry(int delay) {
            int total = sumOfSizes();
            int due = 0;
            for (int nth = 0; nth < sizes.many(); nth++) {
                due += sizes.at(nth);
                if (cameIn(delay + nth + 1, total) < due) {
                    return nth;
                }
            }
            return NONE;
        }

        int leastDelay() {
            int least = 0;
            int due = 0;
            for (int nth = 0; nth < sizes.many(); nth++) {
                due += sizes.at(nth);
                int ticks = (due + rateNow - 1) / Math.max(rateNow, 1);
                least = Math.max(least, ticks - (nth + 1));
            }
            return least;
        }

        /** As long as nothing is taken out the buffer only fills, so that the ticks of the DELAY need no look. */
        int peak() {
            int delay = leastDelay();
            int total = sumOfSizes();
            int most = 0;
            int taken = 0;
            for (int nth = 0; nth < sizes.many(); nth++) {
                most = Math.max(most, cameIn(delay + nth + 1, total) - taken);
                taken += sizes.at(nth);
            }
            return most;
        }

        private int cameIn(int ticks, int total) {
            return Math.min(rateNow * ticks, total);
        }

        private int sumOfSizes() {
            int total = 0;
            for (int nth = 0; nth < sizes.many(); nth++) {
                total += sizes.at(nth);
            }
            return total;
        }
    }
}
