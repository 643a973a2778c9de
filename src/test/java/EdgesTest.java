import java.util.ArrayList;
import java.util.List;

/** The sentences of the description (sections 1 to 5) that name a boundary, each with a test of its own. */
final class EdgesTest extends Houses {
    private static final Checks C = new Checks();
    private static final int NONE = -1;

    public static void main(String[] args) {
        reels();
        fieldsOfFrames();
        cuttingOut();
        spoilingAndHealing();
        nothingIsNotedAnyMore();
        fiveHundredAndTwelveCalls();
        firstFieldCostsNothing();
        beatGoesRound();
        changeOnItsEdges();
        longestStrips();
        pathIsThatOfNow();
        whereFoundFramesBegin();
        looksOfFoundFrames();
        lettersOfLooks();
        roomOfPrints();
        togetherFourAtMost();
        layingsOfTheSameCost();
        apartFromEachOther();
        labelsOfMinutes();
        noLabels();
        roomOfSizes();
        dryByOneLess();
        noMoreThanAllSizes();
        leastDelayAndPeak();
        vault();
        without();
        checksum();
        C.end();
    }

    private static void reels() {
        for (int many = 0; many <= 24; many++) {
            Threetwo x = framed(same(many, 7));
            C.due("FRAMES of " + many, many, x.house(0));
            C.due("FIELDS ahead of PULLING of " + many, 0, x.house(1));
            C.due("pull(0) of " + many, many / 2 * 5 + many % 2 * 2, x.pull(0));
            C.due("pull(1) of " + many, many / 2 * 5 + many % 2 * 3, x.pull(1));
            C.due("FIELDS of " + many, many / 2 * 5 + many % 2 * 3, x.house(1));
        }
        Threetwo x = framed(counted(23, 0, 1));
        C.due("the LOOK 99 for the last FRAME", 23, x.frame(99));
        C.dueState("one more", () -> x.frame(0));
        C.due("PULLED all the same", 60, x.pull(0));
        C.due("the last FIELD is of the last FRAME that came", 99, x.ofField(59, 0));
        C.dueState("one more behind PULLING", () -> x.frame(0));
        x.cut(0, 60);
        C.dueState("CUTTING OUT makes no room in the REEL", () -> x.frame(0));
    }

    private static void fieldsOfFrames() {
        for (int phase = 0; phase <= 1; phase++) {
            Threetwo x = pulled(phase, counted(24, 0, 1));
            int field = 0;
            for (int k = 0; k < 24; k++) {
                int gives = (k + phase) % 2 == 0 ? 2 : 3;
                for (int nth = 0; nth < gives; nth++) {
                    C.due("FIELD " + field + " by PHASE " + phase, k, x.ofField(field, 0));
                    field++;
                }
            }
            C.due("FIELDS by PHASE " + phase, field, x.house(1));
        }
        Threetwo x = pulled(0, 3, 4);
        x.cut(0, 4);
        C.due("PULLING again: all FIELDS are these", 5, x.pull(0));
        C.due("and no others", "aabbb", x.fields());
        C.due("PULLING by the same PHASE again", 5, x.pull(0));
        x.frame(5);
        C.due("a FRAME that comes later gives none", "aabbb", x.fields());
        C.due("until it is PULLED", 7, x.pull(0));
        C.due("PULLING of an empty REEL", 0, new Threetwo().pull(1));
    }

    private static void cuttingOut() {
        Threetwo x = pulled(0, counted(24, 0, 1));
        for (int left = 59; left >= 0; left--) {
            C.due("the first one of " + (left + 1), left, x.cut(0, 1));
        }
        C.dueIndex("there is no first one any more", () -> x.cut(0, 1));
        C.due("no FIELDS", "", x.fields());
        Threetwo ends = pulled(0, 1, 2, 3, 4);
        C.due("the last one", 9, ends.cut(9, 1));
        C.due("all but the first one", 1, ends.cut(1, 8));
        C.due("it is the first one", 1, ends.ofField(0, 0));
        C.dueArgument("two of one", () -> ends.cut(0, 2));
        C.due("the only one", 0, ends.cut(0, 1));
        C.due("all 60", 0, pulled(1, same(24, 1)).cut(0, 60));
        C.dueArgument("61 of 60", () -> pulled(1, same(24, 1)).cut(0, 61));
        C.dueArgument("60 from the second on", () -> pulled(1, same(24, 1)).cut(1, 60));
        Threetwo middle = pulled(0, 1, 2, 3, 4);
        middle.cut(2, 3);
        C.due("those behind have smaller numbers", 3, middle.ofField(2, 0));
        C.due("those ahead have the same ones", 1, middle.ofField(1, 0));
    }

    private static void spoilingAndHealing() {
        Threetwo x = pulled(0, 10, 20);
        C.due("the same LOOK told again", 10, x.spoil(0, 10));
        C.due("is NOTED, too", 1, x.ofField(0, 3));
        C.due("nothing else has another LOOK", "aabbb", x.fields());
        C.due("HEALED", 0, x.heal());
        C.due("with the same LOOK", 10, x.ofField(0, 0));
        C.due("not NOTED any more", 0, x.ofField(0, 3));
        C.due("the LOOK 0 for the last FIELD", 20, x.spoil(4, 0));
        C.due("the LOOK 99 for it", 0, x.spoil(4, 99));
        C.due("NOTED as often as it is", 2, x.house(2));
        C.due("HEALED once", 4, x.heal());
        C.due("back to the LOOK 0", 0, x.ofField(4, 0));
        C.due("NOTED by the one ahead", 1, x.ofField(4, 3));
        C.due("HEALED twice", 4, x.heal());
        C.due("back to its own LOOK", 20, x.ofField(4, 0));
        C.due("HEALED of none", NONE, x.heal());
        C.due("once more of none", NONE, x.heal());
        C.due("no FIELD to HEAL in a new house", NONE, new Threetwo().heal());
        x.spoil(0, 1);
        x.spoil(1, 2);
        x.spoil(0, 3);
        C.due("the last note is the one that goes", 0, x.heal());
        C.due("its FIELD has the LOOK of that note", 1, x.ofField(0, 0));
        C.due("the other FIELD stays as it is", 2, x.ofField(1, 0));
        x.spoil(2, 50);
        C.due("a note behind a HEALED one", 2, x.heal());
        C.due("then the one ahead", 1, x.heal());
        C.due("then the first one", 0, x.heal());
    }

    private static void nothingIsNotedAnyMore() {
        Threetwo x = pulled(0, 10, 20);
        x.spoil(0, 11);
        x.spoil(0, 12);
        x.cut(4, 1);
        C.due("CUTTING OUT another FIELD", 0, x.house(2));
        C.due("its LOOK stays", 12, x.ofField(0, 0));
        C.due("it is not NOTED", 0, x.ofField(0, 3));
        C.due("it can not be HEALED", NONE, x.heal());
        x.spoil(0, 13);
        C.due("it can be NOTED anew", 1, x.house(2));
        x.pull(0);
        C.due("PULLING", 0, x.house(2));
        C.due("it has the LOOK of its FRAME", 10, x.ofField(0, 0));
        C.due("nothing to HEAL", NONE, x.heal());
        x.spoil(2, 30);
        C.dueArgument("a refused PULLING", () -> x.pull(2));
        C.dueArgument("a refused CUTTING OUT", () -> x.cut(0, 6));
        C.dueIndex("another one", () -> x.cut(5, 1));
        C.due("keep what is NOTED", 1, x.house(2));
        C.due("it can be HEALED", 2, x.heal());
        C.due("to its LOOK", 20, x.ofField(2, 0));
    }

    private static void fiveHundredAndTwelveCalls() {
        Threetwo x = new Threetwo();
        x.frame(5);
        x.pull(0);
        for (int nth = 0; nth < 509; nth++) {
            C.due("SPOILT " + nth, nth == 0 ? 5 : (nth - 1) % 100, x.spoil(0, nth % 100));
        }
        C.due("the 512th call", 509, x.house(2));
        Threetwo healed = new Threetwo();
        healed.frame(5);
        healed.pull(0);
        for (int nth = 0; nth < 254; nth++) {
            healed.spoil(nth % 2, nth % 100);
        }
        for (int nth = 253; nth >= 0; nth--) {
            C.due("HEALED " + nth, nth % 2, healed.heal());
        }
        C.due("all as it was", "aa", healed.fields());
        C.due("its LOOK", 5, healed.ofField(0, 0));
        Threetwo rattled = new Threetwo();
        for (int nth = 1; nth <= 512; nth++) {
            C.due("REFUSED " + nth, nth, rattled.knock());
        }
    }

    private static void firstFieldCostsNothing() {
        Threetwo x = strip(99);
        C.due("one FIELD", 0, x.house(4));
        C.due("its place", 0, x.ofField(0, 1));
        C.due("its FOUND FRAME", "99@0x1 ", framesOf(x));
        C.due("no FIELDS", 0, new Threetwo().house(4));
        C.due("no FOUND FRAMES", 0, new Threetwo().house(5));
        C.due("two unlike ones begin with the place 1", "12", path(strip(3, 4)));
        C.due("for nothing", 0, strip(3, 4).house(4));
        Threetwo shorter = strip(4, 4, 4);
        C.due("three alike ones", "234", path(shorter));
        shorter.cut(1, 2);
        C.due("the one that is left", "0", path(shorter));
        shorter.cut(0, 1);
        C.due("none is left", 0, shorter.house(4) + shorter.house(5));
    }

    private static void beatGoesRound() {
        int[] unlike = counted(24, 0, 1);
        for (int phase = 0; phase <= 1; phase++) {
            Threetwo x = pulled(phase, unlike);
            C.due("60 FIELDS cost nothing by PHASE " + phase, 0, x.house(4));
            C.due("their path", (phase == 0 ? "01234" : "23401").repeat(12), path(x));
            C.due("their FOUND FRAMES", 24, x.house(5));
        }
        C.due("behind 4 comes 0, with the same LOOK", 1, pulled(1, 4, 4).house(4));
        C.due("its path", "01234", path(pulled(1, 4, 4)));
        C.due("behind 4 comes 0, with another LOOK", 0, pulled(1, 4, 5).house(4));
        C.due("its path", "23401", path(pulled(1, 4, 5)));
        C.due("behind 1 comes 2, with another LOOK", "01234", path(pulled(0, 4, 5)));
    }

    private static void changeOnItsEdges() {
        C.due("CHANGE at first", 6, new Threetwo().house(3));
        for (int change = 1; change <= 3; change++) {
            Threetwo x = change(strip(1, 2, 3, 4), change);
            C.due("four unlike ones by " + change + ": a change", change, x.house(4));
            C.due("their path by " + change, "1212", path(x));
        }
        for (int change = 4; change <= 20; change++) {
            Threetwo x = change(strip(1, 2, 3, 4), change);
            C.due("four unlike ones by " + change + ": two that should be alike", 3, x.house(4));
            C.due("their path by " + change, "4012", path(x));
        }
        C.due("the same LOOK in a new FRAME costs as much as a change by 1", 1, change(pulled(1, 4, 4), 1).house(4));
        C.due("then the smaller place comes first", "01234", path(change(pulled(1, 4, 4), 1)));
        C.due("a change costs nothing beside CHANGE", 1, change(strip(1, 2, 3), 1).house(4));
        C.due("its path", "040", path(change(strip(1, 2, 3), 1)));
        C.due("three unlike ones by 2", 2, change(strip(1, 2, 3), 2).house(4));
        C.due("three unlike ones by 3: a change, or two that should be alike", 3, change(strip(1, 2, 3), 3).house(4));
        C.due("its path: of both the smallest places", "012", path(change(strip(1, 2, 3), 3)));
        C.due("three unlike ones by 4: two that should be alike", 3, change(strip(1, 2, 3), 4).house(4));
        C.due("its path", "012", path(change(strip(1, 2, 3), 4)));
    }

    private static void longestStrips() {
        Threetwo alike = pulled(0, same(24, 8));
        C.due("60 alike ones", 23, alike.house(4));
        C.due("their path", "01234".repeat(12), path(alike));
        alike.change(1);
        C.due("60 alike ones by 1", 19, alike.house(4));
        C.due("their path by 1", "234".repeat(20), path(alike));
        C.due("their FOUND FRAMES", 20, alike.house(5));
        C.due("the last one", 57, alike.found(19, 1));
        C.dueIndex("no more", () -> alike.found(20, 0));
        Threetwo unlike = pulled(0, same(24, 8));
        for (int field = 0; field < 60; field++) {
            unlike.spoil(field, field);
        }
        unlike.change(1);
        C.due("60 unlike ones by 1", 29, unlike.house(4));
        C.due("their path", "12".repeat(30), path(unlike));
        C.due("60 FOUND FRAMES", 60, unlike.house(5));
        C.due("the FOUND FRAME of the last FIELD", 59, unlike.ofField(59, 2));
        unlike.change(20);
        C.due("60 unlike ones by 20", Model.bestPath(looksOf(unlike), 20).cost, unlike.house(4));
    }

    private static List<Integer> looksOf(Threetwo x) {
        List<Integer> looks = new ArrayList<>();
        int many = x.house(1);
        for (int field = 0; field < many; field++) {
            looks.add(x.ofField(field, 0));
        }
        return looks;
    }

    private interface Step {
        void of(Threetwo x);
    }

    /** Asked for, changed by each call that can change it, and asked for again. */
    private static void pathIsThatOfNow() {
        String[] names = {"PULLED by the other PHASE", "CUT", "SPOILT", "SPOILT again", "by another CHANGE", "HEALED",
            "asked without a FIELD", "with a FRAME that is not PULLED", "PULLED with it", "all CUT"};
        List<Step> steps = List.of(x -> x.pull(1), x -> x.cut(3, 1), x -> x.spoil(1, 9), x -> x.spoil(5, 9),
                x -> x.change(1), Threetwo::heal, x -> x.without(2), x -> x.frame(9), x -> x.pull(0),
                x -> x.cut(0, x.house(1)));
        for (int last = 0; last < names.length; last++) {
            Threetwo x = pulled(0, 1, 2, 3, 4);
            for (int nth = 0; nth <= last; nth++) {
                x.house(4);
                steps.get(nth).of(x);
            }
            dueNow(names[last], x);
        }
    }

    private static void dueNow(String name, Threetwo x) {
        Model.Path best = Model.bestPath(looksOf(x), x.house(3));
        C.due(name + ", what it costs", best.cost, x.house(4));
        C.due(name + ", the path", best.places, path(x));
        int covered = 0;
        for (int frame = 0; frame < x.house(5); frame++) {
            C.due(name + ", FOUND FRAME " + frame + " begins behind the one ahead", covered, x.found(frame, 1));
            for (int nth = 0; nth < x.found(frame, 2); nth++) {
                C.due(name + ", the FOUND FRAME of " + covered, frame, x.ofField(covered, 2));
                covered++;
            }
        }
        C.due(name + ", FIELDS of all FOUND FRAMES", x.house(1), covered);
    }

    private static void whereFoundFramesBegin() {
        C.due("with the first FIELD, on the place 1, too", "3@0x1 4@1x1 ", framesOf(strip(3, 4)));
        C.due("with the places 0 and 2", "1@0x2 2@2x3 ", framesOf(pulled(0, 1, 2)));
        C.due("with the place 0 behind 4", "1@0x3 2@3x2 ", framesOf(pulled(1, 1, 2)));
        C.due("with a place that is not the one behind: 0, 4, 0", "1@0x1 2@1x1 3@2x1 ",
                framesOf(change(strip(1, 2, 3), 1)));
        C.due("with 1 behind 1: 0, 1, 1, 2, 3", "1@0x2 2@2x1 3@3x2 ",
                framesOf(change(strip(1, 1, 2, 3, 3), 1)));
        C.due("2 behind 4 begins one, too", "8@0x3 8@3x3 ", framesOf(change(strip(same(6, 8)), 1)));
    }

    private static void looksOfFoundFrames() {
        int[][] rows = {{1, 1, 1, 1}, {1, 1, 2, 1}, {1, 2, 1, 1}, {2, 1, 1, 1}, {2, 2, 1, 2}, {2, 1, 2, 2},
            {1, 2, 2, 2}, {1, 2, 3, 1}, {2, 1, 3, 1}, {3, 2, 1, 1}, {99, 0, 51, 0}, {99, 98, 97, 97}, {0, 99, 99, 99}};
        for (int[] row : rows) {
            Threetwo x = change(pulled(1, 10, 20, 30, 40, 50, 60, 70), 20);
            for (int nth = 0; nth < 3; nth++) {
                x.spoil(5 + nth, row[nth]);
            }
            String text = "the FOUND FRAME of " + row[0] + ", " + row[1] + ", " + row[2];
            C.due(text + ": its first FIELD", 5, x.found(2, 1));
            C.due(text + ": its FIELDS", 3, x.found(2, 2));
            C.due(text + ": its LOOK", row[3], x.found(2, 0));
        }
        Threetwo two = change(pulled(0, 5, 8, 9, 10), 20);
        two.spoil(0, 6);
        C.due("of two unlike ones the smaller one, told last", "5@0x2 ", framesOf(two).substring(0, 6));
        two.spoil(0, 4);
        C.due("of two unlike ones the smaller one, told first", "4@0x2 ", framesOf(two).substring(0, 6));
    }

    private static void lettersOfLooks() {
        Threetwo x = pulled(0, same(24, 0));
        for (int field = 0; field < 60; field++) {
            x.spoil(field, 99 - field);
        }
        C.due("60 unlike ones", "abcdefghijklmnopqrstuvwxyz" + "?".repeat(34), x.fields());
        x.cut(26, 34);
        C.due("26 unlike ones", "abcdefghijklmnopqrstuvwxyz", x.fields());
        x.cut(0, 25);
        C.due("the one that was z", "a", x.fields());
        Threetwo again = pulled(0, counted(12, 0, 1));
        for (int field = 0; field < 30; field++) {
            again.spoil(field, field < 27 ? field : 53 - field);
        }
        C.due("the 27th, the 27th again, z again, y again", "abcdefghijklmnopqrstuvwxyz??zy", again.fields());
    }

    private static void roomOfPrints() {
        Threetwo x = new Threetwo();
        C.dueIndex("no PRINT to be APART", () -> x.apart(0, 0));
        for (int print = 0; print < 3; print++) {
            C.due("PRINT " + print, print, x.print());
            C.due("it is empty", NONE, x.ofPrint(print, 0));
            for (int nth = 0; nth < 10; nth++) {
                C.due("LOOK " + nth + " of " + print, nth + 1, x.look(print, nth == 0 ? 0 : 89 + nth + print % 2));
            }
            int full = print;
            C.dueState("the 11th of " + print, () -> x.look(full, 0));
            C.due("the tenth of " + print, 98 + print % 2, x.ofPrint(print, 9));
            C.due("no 11th of " + print, NONE, x.ofPrint(print, 10));
        }
        C.dueState("the fourth PRINT", x::print);
        C.dueIndex("is none", () -> x.look(3, 0));
        C.due("PRINTS", 3, x.house(6));
        C.due("APART of the first and the last one", 0, x.apart(0, 2));
        C.due("APART of the first two", 4, x.apart(0, 1));
    }

    private static void togetherFourAtMost() {
        int[] cost = {0, 1, 2, 3, 4, 4, 4};
        int[] other = {50, 51, 52, 53, 54, 55, 99};
        for (int nth = 0; nth < cost.length; nth++) {
            Threetwo x = printed(looks(50), looks(other[nth]));
            C.due("50 and " + other[nth], cost[nth], x.apart(0, 1));
            C.due(other[nth] + " and 50", cost[nth], x.apart(1, 0));
            C.due("50 and " + other[nth] + " together", nth == 0 ? "=" : "~", x.laying(0, 1));
        }
        C.due("0 and 99", 4, printed(looks(0), looks(99)).apart(0, 1));
        for (int many = 0; many <= 10; many++) {
            Threetwo x = printed(same(many, 3), looks());
            C.due(many + " alone", 2 * many, x.apart(0, 1));
            C.due(many + " of the other one alone", 2 * many, x.apart(1, 0));
            C.due(many + " alone, told", "1".repeat(many), x.laying(0, 1));
            C.due(many + " of the other one alone, told", "2".repeat(many), x.laying(1, 0));
            C.due(many + " beside themselves", "=".repeat(many), x.laying(0, 0));
        }
    }

    private static void layingsOfTheSameCost() {
        C.due("two together as dear as both alone", "~", printed(looks(0), looks(4)).laying(0, 1));
        C.due("by 5, too", "~", printed(looks(0), looks(5)).laying(0, 1));
        C.due("together now, not later", "=1", printed(looks(7, 7), looks(7)).laying(0, 1));
        C.due("together now by 1, as dear later", "~1", printed(looks(6, 8), looks(7)).laying(0, 1));
        C.due("together now would be dearer", "1=", printed(looks(6, 7), looks(7)).laying(0, 1));
        C.due("together now by 4, as dear as to be alone", "~1", printed(looks(0, 50), looks(20)).laying(0, 1));
        C.due("the first one alone ahead of the other one", "1=2", printed(looks(10, 50), looks(50, 10)).laying(0, 1));
        C.due("the other way round, too", "1=2", printed(looks(10, 50), looks(50, 10)).laying(1, 0));
        C.due("alone, if only that can have the least cost", "1=2", printed(looks(10, 50), looks(50, 90)).laying(0, 1));
        C.due("and the other way round", "2=1", printed(looks(50, 90), looks(10, 50)).laying(0, 1));
        C.due("two together costs as much there", 4, printed(looks(10, 50), looks(50, 90)).apart(0, 1));
        C.due("their order stays", 4, printed(looks(10, 50), looks(50, 10)).apart(0, 1));
    }

    private static void apartFromEachOther() {
        int[][] rows = {{}, {0}, {99}, {5, 6, 7}, {7, 6, 5}, {1, 3, 5, 7, 9, 11, 13, 15, 17, 19},
            {0, 2, 4, 6, 8, 10, 12, 14, 16, 18}, same(10, 50)};
        for (int[] one : rows) {
            for (int[] other : rows) {
                for (int[] third : rows) {
                    Threetwo x = printed(one, other, third);
                    int way = x.apart(0, 2) + x.apart(2, 1);
                    C.due("no farther than by way of the third one", true, x.apart(0, 1) <= way);
                    C.due("as far the other way", x.apart(0, 1), x.apart(1, 0));
                    C.due("of itself", 0, x.apart(0, 0) + x.apart(1, 1) + x.apart(2, 2));
                    C.due("sound", true, x.isSound());
                }
            }
        }
    }

    private static void labelsOfMinutes() {
        Threetwo x = new Threetwo();
        int picture = 0;
        for (int minute = 0; minute < 60; minute++) {
            boolean whole = minute % 10 == 0;
            int first = minute * 10000 + (whole ? 0 : 2);
            C.due("the first one of the minute " + minute, first, x.label(picture));
            C.due("back from it", picture, x.picture(first));
            C.due("COUNT 0 of the minute " + minute, whole ? picture : NONE, x.picture(minute * 10000));
            C.due("COUNT 1 of the minute " + minute, whole ? picture + 1 : NONE, x.picture(minute * 10000 + 1));
            picture += whole ? 1800 : 1798;
            C.due("the last one of the minute " + minute, minute * 10000 + 5929, x.label(picture - 1));
            C.due("back from it", picture - 1, x.picture(minute * 10000 + 5929));
        }
        C.due("pictures that have LABELS", 107892, picture);
        Threetwo seconds = new Threetwo();
        for (int second = 1; second < 60; second++) {
            C.due("COUNT 0 of the second " + second, 1798 + second * 30, seconds.picture(10000 + second * 100));
            C.due("COUNT 29 of the second " + second, 10029 + second * 100, seconds.label(1827 + second * 30));
        }
    }

    private static void noLabels() {
        Threetwo x = new Threetwo();
        int[] none = {-1, -2, -100, -10002, -595929, Integer.MIN_VALUE, Integer.MIN_VALUE + 1, 30, 31, 99, 130, 6000,
            5930, 5999, 9999, 10000, 10001, 10030, 16000, 595930, 595999, 596000, 599929, 600000, 600002, 605929,
            999999, 1000000, 6000000, Integer.MAX_VALUE, Integer.MAX_VALUE - 1};
        for (int label : none) {
            C.due("picture(" + label + ")", NONE, x.picture(label));
        }
        C.due("the LABEL of the first picture", 0, x.label(0));
        C.due("the LABEL of the last picture", 595929, x.label(107891));
        C.dueArgument("one more", () -> x.label(107892));
        C.dueArgument("one less", () -> x.label(-1));
    }

    private static void roomOfSizes() {
        Threetwo x = new Threetwo();
        C.due("RATE at first", 10, x.house(7));
        for (int nth = 0; nth < 20; nth++) {
            C.due("SIZE " + nth, nth, x.size(nth % 2 == 0 ? 99 : 0));
            C.due("SIZES", nth + 1, x.house(8));
        }
        C.dueState("the 21st one", () -> x.size(0));
        C.due("SIZES at the end", 20, x.house(8));
        C.due("the LEAST DELAY by 50", 20, sent(50, same(20, 99)).house(9));
        C.due("PEAK by 50", 1050, sent(50, same(20, 99)).house(10));
        C.due("the least RATE and the greatest SIZES", 1960, sent(1, same(20, 99)).house(9));
        C.due("the picture that is DRY by one less", 19, sent(1, same(20, 99)).dry(1959));
        C.due("never DRY by it", NONE, sent(1, same(20, 99)).dry(1960));
        C.due("never DRY by the greatest DELAY", NONE, sent(1, same(20, 99)).dry(2000));
        C.due("the greatest first one", 98, sent(1, 99).house(9));
        C.due("20 empty ones", 0, sent(1, same(20, 0)).house(9));
    }

    private static void dryByOneLess() {
        C.due("as much as it has", NONE, sent(10, 10).dry(0));
        C.due("one more than it has", 0, sent(10, 11).dry(0));
        C.due("as much behind one tick more", NONE, sent(10, 20).dry(1));
        C.due("one more behind that", 0, sent(10, 21).dry(1));
        C.due("the first of two", 0, sent(10, 11, 99).dry(0));
        C.due("the other one", 1, sent(10, 10, 11).dry(0));
        C.due("an empty picture needs nothing", NONE, sent(1, 0).dry(0));
        C.due("what came for it is for the next one", NONE, sent(1, 0, 2).dry(0));
        C.due("and no more than that", 1, sent(1, 0, 3).dry(0));
        C.due("what is left over stays", NONE, sent(10, 5, 15).dry(0));
        C.due("without SIZES", NONE, new Threetwo().dry(0));
        C.due("without SIZES, the greatest DELAY", NONE, new Threetwo().dry(2000));
        Threetwo x = sent(1, 50, 0, 3);
        for (int delay = 0; delay < 49; delay++) {
            C.due("DRY by " + delay, 0, x.dry(delay));
        }
        C.due("DRY by 49", 2, x.dry(49));
        C.due("DRY by 50", NONE, x.dry(50));
        C.due("the LEAST DELAY of it", 50, x.house(9));
    }

    private static void noMoreThanAllSizes() {
        C.due("all at the first tick", 30, sent(50, 10, 10, 10).house(10));
        C.due("just all", 50, sent(50, 20, 30).house(10));
        C.due("one more than comes in", 50, sent(50, 20, 31).house(10));
        C.due("a long DELAY fills it no further", NONE, sent(50, 1).dry(2000));
        C.due("the last one is there in the end", NONE, sent(7, 7, 7, 7).dry(0));
        C.due("empty ones at the end", 99, sent(50, 99, 0, 0).house(10));
    }

    private static void leastDelayAndPeak() {
        Threetwo late = sent(10, 5, 5, 5, 5, 40);
        C.due("the LEAST DELAY for the last one", 1, late.house(9));
        C.due("PEAK at the last one: 60 came, 20 are taken", 40, late.house(10));
        Threetwo middle = sent(10, 5, 30, 1);
        C.due("the LEAST DELAY for one in the middle", 2, middle.house(9));
        C.due("PEAK there", 31, middle.house(10));
        Threetwo first = sent(10, 35, 1, 1);
        C.due("the LEAST DELAY for the first one", 3, first.house(9));
        C.due("PEAK at the first one", 37, first.house(10));
        C.due("no DELAY", 0, sent(10, 10, 10, 10).house(9));
        C.due("PEAK without DELAY", 10, sent(10, 10, 10, 10).house(10));
        C.due("one more needs one", 1, sent(10, 10, 10, 11).house(9));
        C.due("its PEAK", 20, sent(10, 10, 10, 11).house(10));
        C.due("without SIZES", 0, new Threetwo().house(9) + new Threetwo().house(10));
        middle.rate(50);
        C.due("by another RATE no DELAY", 0, middle.house(9));
        C.due("its PEAK", 36, middle.house(10));
        middle.size(99);
        C.due("with one more SIZE", 0, middle.house(9));
        C.due("its PEAK: 135 came, 35 are taken", 100, middle.house(10));
        Threetwo x = sent(10, 99, 3, 50);
        for (int rate = 1; rate <= 50; rate++) {
            x.rate(rate);
            int least = x.house(9);
            C.due("not DRY by " + least + ", RATE " + rate, NONE, x.dry(least));
            C.due("DRY by one less, RATE " + rate, true, x.dry(least - 1) != NONE);
        }
    }

    private static void vault() {
        Threetwo x = new Threetwo();
        C.due("none REFUSED", 0, x.house(11));
        C.due("with this", 1, x.knock());
        C.due("asking counts none", 1, x.house(11));
        C.dueArgument("a refused call", () -> x.frame(100));
        C.due("is not one who rattles", 1, x.house(11));
        C.due("the next one", 2, x.knock());
    }

    private static void without() {
        Threetwo x = pulled(0, 1, 2, 3, 4, 5);
        for (int field = 0; field < 12; field++) {
            List<Integer> rest = looksOf(x);
            rest.remove(field);
            C.due("without " + field, Model.bestPath(rest, 6).cost, x.without(field));
        }
        C.dueIndex("without 12", () -> x.without(12));
        C.due("without one of two", 0, change(strip(1, 2), 1).without(1));
        C.due("without the only one", 0, strip(1).without(0));
        Threetwo noted = pulled(0, 1, 2);
        noted.spoil(4, 9);
        noted.without(4);
        C.due("what is NOTED stays", 4, noted.heal());
        Threetwo most = brimful();
        List<Integer> rest = looksOf(most);
        rest.remove(59);
        C.due("without the last of 60", Model.bestPath(rest, 20).cost, most.without(59));
    }

    private static void checksum() {
        C.due("of a new house", digestByCalls(new Threetwo()), new Threetwo().digest());
        C.due("of one that is brimful", digestByCalls(brimful()), brimful().digest());
        C.due("of one in use", digestByCalls(full()), full().digest());
        C.due("of PRINTS without LOOKS", digestByCalls(printed(looks(), looks())), printed(looks(), looks()).digest());
        Threetwo x = brimful();
        x.cut(0, 60);
        C.due("of one that is cut empty", digestByCalls(x), x.digest());
        for (int size = 30; size <= 50; size++) {
            C.due("of a SIZE of " + size, digestByCalls(sent(10, size)), sent(10, size).digest());
        }
    }
}
