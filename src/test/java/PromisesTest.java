/** Promise by promise: ordinary values, the edges that the document names, and wrong values. */
final class PromisesTest extends Houses {
    private static final Checks C = new Checks();
    private static final int MIN = Integer.MIN_VALUE;
    private static final int MAX = Integer.MAX_VALUE;

    public static void main(String[] args) {
        promise1New();
        promise2Frame();
        promise3Pull();
        promise4Cut();
        promise5Spoil();
        promise6Heal();
        promise7Change();
        promise8Print();
        promise9Look();
        promise10Rate();
        promise11Size();
        promise12Knock();
        promise13OfField();
        promise14Found();
        promise15OfPrint();
        promise16Apart();
        promise17Laying();
        promise18House();
        promise19Fields();
        promise20Label();
        promise21Picture();
        promise22Dry();
        promise23Without();
        promise24IsSound();
        promise25Digest();
        C.end();
    }

    private interface Use {
        void of(Threetwo house);
    }

    /** What a wrong call must leave as it is. */
    private static void keeps(String name, Use wrong) {
        Threetwo x = full();
        wrong.of(x);
        C.due(name + " changes nothing", portrait(full()), portrait(x));
    }

    private static void promise1New() {
        Threetwo x = new Threetwo();
        int[] want = {0, 0, 0, 6, 0, 0, 0, 10, 0, 0, 0, 0};
        for (int what = 0; what < 12; what++) {
            C.due("new, house(" + what + ")", want[what], x.house(what));
        }
        C.due("new, fields()", "", x.fields());
        C.due("new, isSound()", true, x.isSound());
        C.due("new, digest()", 5655970354736624501L, x.digest());
        Threetwo other = new Threetwo();
        other.frame(1);
        other.knock();
        C.due("one house has nothing of another", 0, x.house(0) + x.house(11));
    }

    private static void promise2Frame() {
        Threetwo x = new Threetwo();
        C.due("frame(0)", 0, x.frame(0));
        C.due("frame(99)", 1, x.frame(99));
        C.due("a FRAME gives no FIELD yet", 0, x.house(1));
        C.dueArgument("frame(-1)", () -> x.frame(-1));
        C.dueArgument("frame(100)", () -> x.frame(100));
        C.dueArgument("frame(MIN)", () -> x.frame(MIN));
        C.dueArgument("frame(MAX)", () -> x.frame(MAX));
        C.due("frame(50)", 2, x.frame(50));
        for (int k = 3; k < 24; k++) {
            C.due("frame " + k, k, x.frame(k));
        }
        C.dueState("the 25th FRAME", () -> x.frame(3));
        C.dueArgument("the 25th FRAME with a wrong LOOK", () -> x.frame(100));
        C.due("house(0)", 24, x.house(0));
        C.due("pull(0) of 24", 60, x.pull(0));
        C.due("its last LOOK", 23, x.ofField(59, 0));
        keeps("frame(100)", house -> C.dueArgument("frame(100)", () -> house.frame(100)));
    }

    private static void promise3Pull() {
        Threetwo x = new Threetwo();
        C.due("pull(0) without FRAMES", 0, x.pull(0));
        C.due("pull(1) without FRAMES", 0, x.pull(1));
        C.dueArgument("pull(2)", () -> x.pull(2));
        C.dueArgument("pull(-1)", () -> x.pull(-1));
        C.dueArgument("pull(MIN)", () -> x.pull(MIN));
        C.dueArgument("pull(MAX)", () -> x.pull(MAX));
        x.frame(3);
        C.due("pull(0) of one", 2, x.pull(0));
        C.due("pull(1) of one", 3, x.pull(1));
        x.frame(4);
        x.frame(5);
        C.due("FRAMES told later are not PULLED", 3, x.house(1));
        C.due("pull(0) of three", 7, x.pull(0));
        C.due("2 3 2", "aabbbcc", x.fields());
        C.due("pull(1) of three", 8, x.pull(1));
        C.due("3 2 3", "aaabbccc", x.fields());
        x.spoil(0, 90);
        C.due("pull(1) again", 8, x.pull(1));
        C.due("the SPOILT is gone", "aaabbccc", x.fields());
        C.due("nothing is NOTED any more", 0, x.house(2));
        C.due("nothing to HEAL", -1, x.heal());
        for (int k = 3; k < 24; k++) {
            x.frame(k);
        }
        C.due("pull(1) of 24", 60, x.pull(1));
        keeps("pull(2)", house -> C.dueArgument("pull(2)", () -> house.pull(2)));
    }

    private static void promise4Cut() {
        Threetwo x = pulled(0, 1, 2, 3, 4);
        C.due("cut(3, 1)", 9, x.cut(3, 1));
        C.due("behind cut(3, 1)", "aabbccddd", x.fields());
        C.due("cut(1, 4)", 5, x.cut(1, 4));
        C.due("behind cut(1, 4)", 13444, x.ofField(0, 0) * 10000 + x.ofField(1, 0) * 1000
                + x.ofField(2, 0) * 100 + x.ofField(3, 0) * 10 + x.ofField(4, 0));
        C.dueIndex("cut(5, 1)", () -> x.cut(5, 1));
        C.dueIndex("cut(-1, 1)", () -> x.cut(-1, 1));
        C.dueIndex("cut(-1, 0)", () -> x.cut(-1, 0));
        C.dueIndex("cut(MAX, MAX)", () -> x.cut(MAX, MAX));
        C.dueIndex("cut(MIN, MIN)", () -> x.cut(MIN, MIN));
        C.dueArgument("cut(0, 0)", () -> x.cut(0, 0));
        C.dueArgument("cut(0, -1)", () -> x.cut(0, -1));
        C.dueArgument("cut(0, 6)", () -> x.cut(0, 6));
        C.dueArgument("cut(4, 2)", () -> x.cut(4, 2));
        C.dueArgument("cut(4, MAX)", () -> x.cut(4, MAX));
        C.dueArgument("cut(4, MIN)", () -> x.cut(4, MIN));
        C.due("cut(4, 1), the last one", 4, x.cut(4, 1));
        x.spoil(0, 77);
        x.spoil(3, 78);
        C.due("cut(2, 1)", 3, x.cut(2, 1));
        C.due("nothing is NOTED any more", 0, x.house(2) + x.ofField(0, 3) + x.ofField(2, 3));
        C.due("nothing to HEAL", -1, x.heal());
        C.due("the SPOILT keeps its LOOK", 77, x.ofField(0, 0));
        C.due("the other one, too", 78, x.ofField(2, 0));
        C.due("cut(0, 3), all", 0, x.cut(0, 3));
        C.due("the REEL is as it was", 4, x.house(0));
        C.due("pull(0)", 10, x.pull(0));
        keeps("wrong cuts", house -> {
            C.dueIndex("cut(10, 1)", () -> house.cut(10, 1));
            C.dueArgument("cut(9, 2)", () -> house.cut(9, 2));
            C.dueArgument("cut(3, 0)", () -> house.cut(3, 0));
        });
    }

    private static void promise5Spoil() {
        Threetwo x = pulled(0, 1, 2);
        C.due("spoil(1, 99)", 1, x.spoil(1, 99));
        C.due("its LOOK", 99, x.ofField(1, 0));
        C.due("spoil(1, 99), the same again", 99, x.spoil(1, 99));
        C.due("NOTED twice", 2, x.house(2));
        C.due("spoil(4, 0)", 2, x.spoil(4, 0));
        C.due("NOTED FIELDS", "01001", "" + x.ofField(0, 3) + x.ofField(1, 3)
                + x.ofField(2, 3) + x.ofField(3, 3) + x.ofField(4, 3));
        C.dueIndex("spoil(5, 0)", () -> x.spoil(5, 0));
        C.dueIndex("spoil(-1, 0)", () -> x.spoil(-1, 0));
        C.dueIndex("spoil(5, 100)", () -> x.spoil(5, 100));
        C.dueIndex("spoil(MIN, -1)", () -> x.spoil(MIN, -1));
        C.dueArgument("spoil(0, 100)", () -> x.spoil(0, 100));
        C.dueArgument("spoil(0, -1)", () -> x.spoil(0, -1));
        C.dueArgument("spoil(4, MAX)", () -> x.spoil(4, MAX));
        C.due("the REEL is not SPOILT", 5, x.pull(0));
        C.due("pulled anew", "aabbb", x.fields());
        x.house(4);
        x.spoil(3, 50);
        C.due("the BEST PATH is another one then", "34012", path(x));
        C.due("what it costs", 3, x.house(4));
        keeps("wrong spoils", house -> {
            C.dueIndex("spoil(10, 1)", () -> house.spoil(10, 1));
            C.dueArgument("spoil(9, 100)", () -> house.spoil(9, 100));
        });
        Threetwo many = pulled(0, 1);
        for (int nth = 0; nth < 400; nth++) {
            many.spoil(nth % 2, nth % 100);
        }
        C.due("400 notes", 400, many.house(2));
    }

    private static void promise6Heal() {
        Threetwo x = pulled(0, 1, 2);
        C.due("heal() of none", -1, x.heal());
        x.spoil(0, 10);
        x.spoil(3, 11);
        x.spoil(0, 12);
        x.house(4);
        C.due("heal() the last", 0, x.heal());
        C.due("its LOOK ahead of that", 10, x.ofField(0, 0));
        C.due("it stays NOTED", 1, x.ofField(0, 3));
        C.due("heal() the second", 3, x.heal());
        C.due("its LOOK", 2, x.ofField(3, 0));
        C.due("it is not NOTED any more", 0, x.ofField(3, 3));
        C.due("one is left", 1, x.house(2));
        C.due("heal() the first", 0, x.heal());
        C.due("its LOOK", 1, x.ofField(0, 0));
        C.due("the BEST PATH is as it was", 0, x.house(4));
        C.due("heal() of none again", -1, x.heal());
        C.due("all is as it was", pulled(0, 1, 2).digest(), x.digest());
    }

    private static void promise7Change() {
        Threetwo x = pulled(1, 5, 7, 5, 9);
        x.cut(3, 1);
        C.due("by 6", 4, x.house(4));
        C.due("change(1)", 6, x.change(1));
        C.due("by 1", 1, x.house(4));
        C.due("change(20)", 1, x.change(20));
        C.due("by 20", 4, x.house(4));
        C.due("change(3)", 20, x.change(3));
        C.due("by 3", 3, x.house(4));
        C.due("change(20)", 3, x.change(20));
        C.dueArgument("change(0)", () -> x.change(0));
        C.dueArgument("change(21)", () -> x.change(21));
        C.dueArgument("change(MIN)", () -> x.change(MIN));
        C.dueArgument("change(MAX)", () -> x.change(MAX));
        C.due("house(3)", 20, x.house(3));
        C.due("change(3)", 20, x.change(3));
        keeps("change(0)", house -> C.dueArgument("change(0)", () -> house.change(0)));
    }

    private static void promise8Print() {
        Threetwo x = new Threetwo();
        C.due("print()", 0, x.print());
        C.due("print()", 1, x.print());
        C.due("house(6)", 2, x.house(6));
        C.due("print()", 2, x.print());
        C.dueState("the fourth print()", x::print);
        C.dueState("and again", x::print);
        C.due("house(6)", 3, x.house(6));
        C.due("it is empty", -1, x.ofPrint(2, 0));
        x.look(2, 4);
        C.dueState("print() behind that", x::print);
        C.due("its LOOK", 4, x.ofPrint(2, 0));
    }

    private static void promise9Look() {
        Threetwo x = new Threetwo();
        C.dueIndex("look(0, 5) without PRINTS", () -> x.look(0, 5));
        x.print();
        x.print();
        C.due("look(1, 0)", 1, x.look(1, 0));
        C.due("look(1, 99)", 2, x.look(1, 99));
        C.due("look(0, 7)", 1, x.look(0, 7));
        C.dueIndex("look(2, 7)", () -> x.look(2, 7));
        C.dueIndex("look(-1, 7)", () -> x.look(-1, 7));
        C.dueIndex("look(2, 100)", () -> x.look(2, 100));
        C.dueIndex("look(MAX, 7)", () -> x.look(MAX, 7));
        C.dueIndex("look(MIN, 7)", () -> x.look(MIN, 7));
        C.dueArgument("look(0, 100)", () -> x.look(0, 100));
        C.dueArgument("look(0, -1)", () -> x.look(0, -1));
        for (int nth = 3; nth <= 10; nth++) {
            C.due("LOOK " + nth, nth, x.look(1, nth));
        }
        C.dueState("the 11th LOOK", () -> x.look(1, 1));
        C.dueArgument("the 11th LOOK, a wrong one", () -> x.look(1, 100));
        C.dueIndex("no PRINT, a wrong LOOK", () -> x.look(3, -1));
        C.due("the other one is not full", 2, x.look(0, 8));
        C.due("the tenth", 10, x.ofPrint(1, 9));
        C.due("no 11th", -1, x.ofPrint(1, 10));
        keeps("wrong looks", house -> {
            C.dueIndex("look(2, 1)", () -> house.look(2, 1));
            C.dueArgument("look(1, 100)", () -> house.look(1, 100));
        });
    }

    private static void promise10Rate() {
        Threetwo x = new Threetwo();
        x.size(60);
        C.due("the LEAST DELAY by 10", 5, x.house(9));
        C.due("rate(50)", 10, x.rate(50));
        C.due("the LEAST DELAY by 50", 1, x.house(9));
        C.due("rate(1)", 50, x.rate(1));
        C.due("the LEAST DELAY by 1", 59, x.house(9));
        C.dueArgument("rate(0)", () -> x.rate(0));
        C.dueArgument("rate(51)", () -> x.rate(51));
        C.dueArgument("rate(MIN)", () -> x.rate(MIN));
        C.dueArgument("rate(MAX)", () -> x.rate(MAX));
        C.due("house(7)", 1, x.house(7));
        C.due("rate(2)", 1, x.rate(2));
        keeps("rate(0)", house -> C.dueArgument("rate(0)", () -> house.rate(0)));
    }

    private static void promise11Size() {
        Threetwo x = new Threetwo();
        C.due("size(0)", 0, x.size(0));
        C.due("size(99)", 1, x.size(99));
        C.dueArgument("size(-1)", () -> x.size(-1));
        C.dueArgument("size(100)", () -> x.size(100));
        C.dueArgument("size(MIN)", () -> x.size(MIN));
        C.dueArgument("size(MAX)", () -> x.size(MAX));
        for (int nth = 2; nth < 20; nth++) {
            C.due("SIZE " + nth, nth, x.size(nth));
        }
        C.dueState("the 21st SIZE", () -> x.size(1));
        C.dueArgument("the 21st SIZE, a wrong one", () -> x.size(100));
        C.due("house(8)", 20, x.house(8));
        keeps("size(100)", house -> C.dueArgument("size(100)", () -> house.size(100)));
    }

    private static void promise12Knock() {
        Threetwo x = new Threetwo();
        for (int nth = 1; nth <= 30; nth++) {
            C.due("knock " + nth, nth, x.knock());
        }
        C.due("house(11)", 30, x.house(11));
        C.due("nothing else comes of it", 0, x.house(0) + x.house(1) + x.house(6) + x.house(8));
    }

    private static void promise13OfField() {
        Threetwo x = pulled(0, 5, 7, 5, 9);
        C.due("the path from place 0", "0123401234", path(x));
        C.due("the FOUND FRAMES", "0011122333", ofFields(x, 2));
        C.due("the LOOKS", "5577755999", ofFields(x, 0));
        C.due("pulled by 1, from place 2", 10, x.pull(1));
        C.due("its path", "2340123401", path(x));
        C.due("one FIELD", "0", path(strip(4)));
        C.due("two alike ones", "01", path(strip(4, 4)));
        C.due("two unlike ones: from 1 to 2", "12", path(strip(4, 5)));
        C.due("three alike ones", "234", path(strip(4, 4, 4)));
        C.due("three unlike ones by 1", "040", path(change(strip(1, 2, 3), 1)));
        C.due("four alike ones", "0123", path(strip(4, 4, 4, 4)));
        C.due("of several the smallest", "01123", path(change(strip(1, 1, 2, 3, 3), 1)));
        C.due("each but the one that follows begins a FRAME", "00122",
                ofFields(change(strip(1, 1, 2, 3, 3), 1), 2));
        x.spoil(9, 3);
        C.due("NOTED", "0000000001", ofFields(x, 3));
        Threetwo shorter = pulled(1, 5, 7, 5, 9);
        shorter.cut(3, 1);
        C.due("a long path", "234023401", path(change(shorter, 1)));
        shorter.cut(2, 7);
        C.due("of two alike ones left by it", "01", path(shorter));
        shorter.cut(0, 1);
        C.due("of the one left by it", "0", path(shorter));
        C.dueIndex("ofField(10, 0)", () -> x.ofField(10, 0));
        C.dueIndex("ofField(-1, 0)", () -> x.ofField(-1, 0));
        C.dueIndex("ofField(10, 4)", () -> x.ofField(10, 4));
        C.dueIndex("ofField(MIN, MIN)", () -> x.ofField(MIN, MIN));
        C.dueIndex("ofField(MAX, 0)", () -> x.ofField(MAX, 0));
        C.dueArgument("ofField(9, 4)", () -> x.ofField(9, 4));
        C.dueArgument("ofField(0, -1)", () -> x.ofField(0, -1));
        C.dueArgument("ofField(0, MAX)", () -> x.ofField(0, MAX));
        C.dueIndex("ofField(0, 0) without FIELDS", () -> new Threetwo().ofField(0, 0));
        keeps("ofField", house -> {
            C.dueArgument("ofField(0, 4)", () -> house.ofField(0, 4));
            house.ofField(3, 1);
        });
    }

    private static void promise14Found() {
        Threetwo x = pulled(0, 5, 7, 5, 9);
        C.due("2 3 2 3", "5@0x2 7@2x3 5@5x2 9@7x3 ", framesOf(x));
        x.pull(1);
        C.due("3 2 3 2", "5@0x3 7@3x2 5@5x3 9@8x2 ", framesOf(x));
        x.spoil(0, 8);
        C.due("two of three", 5, x.found(0, 0));
        x.spoil(1, 9);
        x.change(20);
        C.due("of three unlike ones the smallest", "5@0x3", framesOf(x).substring(0, 5));
        x.spoil(1, 8);
        C.due("two of three, the first two", 8, x.found(0, 0));
        x.spoil(0, 5);
        x.spoil(1, 9);
        x.spoil(2, 8);
        C.due("of three unlike ones the smallest, told first", "5@0x3", framesOf(x).substring(0, 5));
        Threetwo two = pulled(0, 5, 8, 8, 9);
        two.spoil(1, 8);
        C.due("the next FRAME has no say", "5@0x2 8@2x3 ", framesOf(change(two, 20)).substring(0, 12));
        Threetwo changed = change(pulled(0, 1, 2, 3), 1);
        changed.cut(1, 1);
        C.due("a FRAME of one FIELD", "1@0x1 2@1x3 3@4x2 ", framesOf(changed));
        Threetwo single = pulled(0, new int[24]);
        for (int field = 0; field < 60; field++) {
            single.spoil(field, field);
        }
        single.change(1);
        C.due("60 FOUND FRAMES", 60, single.house(5));
        C.due("the last one", 59, single.found(59, 0));
        C.dueIndex("found(60, 0)", () -> single.found(60, 0));
        C.dueIndex("found(4, 0)", () -> x.found(x.house(5), 0));
        C.dueIndex("found(-1, 0)", () -> x.found(-1, 0));
        C.dueIndex("found(-1, 3)", () -> x.found(-1, 3));
        C.dueIndex("found(MAX, 3)", () -> x.found(MAX, 3));
        C.dueIndex("found(MIN, 0)", () -> x.found(MIN, 0));
        C.dueArgument("found(0, 3)", () -> x.found(0, 3));
        C.dueArgument("found(0, -1)", () -> x.found(0, -1));
        C.dueIndex("found(0, 0) without FIELDS", () -> new Threetwo().found(0, 0));
        x.cut(0, x.house(1));
        C.dueIndex("found(0, 0) when all are cut out", () -> x.found(0, 0));
    }

    private static void promise15OfPrint() {
        Threetwo x = printed(looks(3, 99, 0), looks());
        C.due("ofPrint(0, 0)", 3, x.ofPrint(0, 0));
        C.due("ofPrint(0, 1)", 99, x.ofPrint(0, 1));
        C.due("ofPrint(0, 2)", 0, x.ofPrint(0, 2));
        C.due("ofPrint(0, 3)", -1, x.ofPrint(0, 3));
        C.due("ofPrint(0, MAX)", -1, x.ofPrint(0, MAX));
        C.due("ofPrint(1, 0)", -1, x.ofPrint(1, 0));
        C.dueIndex("ofPrint(2, 0)", () -> x.ofPrint(2, 0));
        C.dueIndex("ofPrint(-1, 0)", () -> x.ofPrint(-1, 0));
        C.dueIndex("ofPrint(2, -1)", () -> x.ofPrint(2, -1));
        C.dueIndex("ofPrint(MAX, 0)", () -> x.ofPrint(MAX, 0));
        C.dueArgument("ofPrint(0, -1)", () -> x.ofPrint(0, -1));
        C.dueArgument("ofPrint(1, MIN)", () -> x.ofPrint(1, MIN));
    }

    private static void promise16Apart() {
        C.due("by 1", 1, printed(looks(5), looks(6)).apart(0, 1));
        C.due("by 3", 3, printed(looks(5), looks(2)).apart(0, 1));
        C.due("by 4 at most", 4, printed(looks(5), looks(99)).apart(0, 1));
        C.due("one alone", 2, printed(looks(1, 5, 9), looks(1, 9)).apart(0, 1));
        C.due("all alone", 20, printed(looks(0, 1, 2, 3, 4, 5, 6, 7, 8, 9), looks()).apart(0, 1));
        C.due("none with any", 8, printed(looks(1, 5), looks(50, 60)).apart(0, 1));
        C.due("empty ones", 0, printed(looks(), looks()).apart(1, 0));
        C.due("of itself", 0, printed(looks(4, 8)).apart(0, 0));
        Threetwo x = printed(looks(1, 5, 9, 12, 13), looks(1, 9, 12), looks(40, 41, 1, 5, 8, 12, 12, 12, 12, 12));
        C.due("apart(0, 2)", 12, x.apart(0, 2));
        C.due("apart(2, 0)", 12, x.apart(2, 0));
        C.dueIndex("apart(3, 0)", () -> x.apart(3, 0));
        C.dueIndex("apart(0, 3)", () -> x.apart(0, 3));
        C.dueIndex("apart(-1, 0)", () -> x.apart(-1, 0));
        C.dueIndex("apart(0, MIN)", () -> x.apart(0, MIN));
        C.dueIndex("apart(MAX, MAX)", () -> x.apart(MAX, MAX));
        C.dueIndex("apart(0, 1) of one", () -> printed(looks(1)).apart(0, 1));
    }

    private static void promise17Laying() {
        C.due("empty ones", "", printed(looks(), looks()).laying(0, 1));
        C.due("the first one alone", "11", printed(looks(1, 2), looks()).laying(0, 1));
        C.due("the other one alone", "22", printed(looks(), looks(1, 2)).laying(0, 1));
        C.due("unlike ones together, at the same cost", "~", printed(looks(5), looks(9)).laying(0, 1));
        C.due("together as early as can be", "=1", printed(looks(5, 5), looks(5)).laying(0, 1));
        C.due("the other way round", "=2", printed(looks(5), looks(5, 5)).laying(0, 1));
        C.due("the first ahead of the other", "~1", printed(looks(5, 5), looks(6)).laying(0, 1));
        Threetwo x = printed(looks(1, 5, 9, 12), looks(1, 9, 12, 20), looks(40, 41, 1));
        C.due("laying(0, 1)", "=1==2", x.laying(0, 1));
        C.due("laying(1, 0)", "=2==1", x.laying(1, 0));
        C.due("laying(2, 2)", "===", x.laying(2, 2));
        C.due("laying(0, 2)", "22=111", x.laying(0, 2));
        C.due("far apart, and yet together", "~=", printed(looks(10, 50), looks(90, 50)).laying(0, 1));
        int[] low = new int[10];
        int[] high = new int[10];
        java.util.Arrays.fill(high, 99);
        C.due("ten with ten", "~~~~~~~~~~", printed(low, high).laying(0, 1));
        C.due("apart beside it", 40, printed(low, high).apart(0, 1));
        low[9] = 50;
        high[0] = 50;
        C.due("the longest one", "111111111=222222222", printed(low, high).laying(0, 1));
        C.due("apart beside that", 36, printed(low, high).apart(0, 1));
        C.dueIndex("laying(3, 0)", () -> x.laying(3, 0));
        C.dueIndex("laying(0, 3)", () -> x.laying(0, 3));
        C.dueIndex("laying(-1, 0)", () -> x.laying(-1, 0));
        C.dueIndex("laying(0, MIN)", () -> x.laying(0, MIN));
        C.dueIndex("laying(MAX, 0)", () -> x.laying(MAX, 0));
        C.dueIndex("laying(0, 0) without PRINTS", () -> new Threetwo().laying(0, 0));
    }

    private static void promise18House() {
        Threetwo x = full();
        int[] want = {5, 10, 3, 4, 3, 4, 2, 7, 2, 2, 21, 1};
        for (int what = 0; what < 12; what++) {
            C.due("house(" + what + ")", want[what], x.house(what));
        }
        C.dueArgument("house(12)", () -> x.house(12));
        C.dueArgument("house(-1)", () -> x.house(-1));
        C.dueArgument("house(MIN)", () -> x.house(MIN));
        C.dueArgument("house(MAX)", () -> x.house(MAX));
        Threetwo ticks = sent(10, 10, 30, 5);
        C.due("LEAST DELAY", 2, ticks.house(9));
        C.due("PEAK", 30, ticks.house(10));
        C.due("no more comes than all SIZES together", 45, sent(50, 10, 30, 5).house(10));
        C.due("empty pictures need no DELAY", 0, sent(1, 0, 0, 0).house(9));
        C.due("and have no PEAK", 0, sent(50, 0, 0, 0).house(10));
        C.due("PEAK at the last tick", 25, sent(10, 0, 0, 25).house(10));
        int[] most = new int[20];
        java.util.Arrays.fill(most, 99);
        C.due("the longest DELAY", 1960, sent(1, most).house(9));
        C.due("its PEAK", 1961, sent(1, most).house(10));
        C.due("a new FRAME of the same LOOK costs 1", 1, pulled(0, 4, 4).house(4));
    }

    private static void promise19Fields() {
        C.due("none", "", new Threetwo().fields());
        C.due("a LOOK comes again", "aabbbaa", pulled(0, 5, 7, 5).fields());
        int[] many = new int[24];
        for (int k = 0; k < 24; k++) {
            many[k] = 99 - k;
        }
        Threetwo x = pulled(0, many);
        C.due("24 LOOKS", "aabbbccdddeefffgghhhiijjjkklllmmnnnoopppqqrrrssttt", x.fields().substring(0, 50));
        for (int field = 0; field < 60; field++) {
            x.spoil(field, field);
        }
        C.due("60 LOOKS", "abcdefghijklmnopqrstuvwxyz" + "?".repeat(34), x.fields());
        x.spoil(59, 25);
        x.spoil(30, 26);
        x.spoil(58, 0);
        C.due("those behind z are never told apart", "abcdefghijklmnopqrstuvwxyz" + "?".repeat(32) + "az", x.fields());
        x.cut(0, 1);
        C.due("the first one is always a", "abcdefghijklmnopqrstuvwxy" + "z???z" + "?".repeat(27) + "?y", x.fields());
    }

    private static void promise20Label() {
        Threetwo x = new Threetwo();
        int[][] pairs = {{0, 0}, {1, 1}, {29, 29}, {30, 100}, {1799, 5929}, {1800, 10002}, {3597, 15929},
            {3598, 20002}, {17981, 95929}, {17982, 100000}, {17983, 100001}, {19782, 110002}, {107891, 595929},
            {53946, 300000}, {53945, 295929}};
        for (int[] pair : pairs) {
            C.due("label(" + pair[0] + ")", pair[1], x.label(pair[0]));
        }
        C.dueArgument("label(-1)", () -> x.label(-1));
        C.dueArgument("label(107892)", () -> x.label(107892));
        C.dueArgument("label(MIN)", () -> x.label(MIN));
        C.dueArgument("label(MAX)", () -> x.label(MAX));
        keeps("label", house -> house.label(1800));
    }

    private static void promise21Picture() {
        Threetwo x = new Threetwo();
        int[][] pairs = {{0, 0}, {29, 29}, {100, 30}, {10002, 1800}, {100000, 17982}, {100001, 17983},
            {595929, 107891}, {50100, 9020}, {590002, 106094}};
        for (int[] pair : pairs) {
            C.due("picture(" + pair[0] + ")", pair[1], x.picture(pair[0]));
        }
        int[] none = {-1, MIN, MAX, 30, 99, 6000, 9900, 10000, 10001, 590000, 590001, 595930, 600000, 600002, 1000000};
        for (int label : none) {
            C.due("picture(" + label + ")", -1, x.picture(label));
        }
    }

    private static void promise22Dry() {
        Threetwo x = sent(10, 10, 30, 5);
        C.due("dry(0)", 1, x.dry(0));
        C.due("dry(1)", 1, x.dry(1));
        C.due("dry(2)", -1, x.dry(2));
        C.due("dry(2000)", -1, x.dry(2000));
        C.due("the first picture", 0, sent(10, 11, 0).dry(0));
        C.due("no more of it", -1, sent(10, 10, 0).dry(0));
        C.due("without SIZES", -1, new Threetwo().dry(0));
        C.due("the last picture", 2, sent(5, 5, 5, 6).dry(0));
        C.dueArgument("dry(-1)", () -> x.dry(-1));
        C.dueArgument("dry(2001)", () -> x.dry(2001));
        C.dueArgument("dry(MIN)", () -> x.dry(MIN));
        C.dueArgument("dry(MAX)", () -> x.dry(MAX));
        C.due("the LEAST DELAY is as it was", 2, x.house(9));
    }

    private static void promise23Without() {
        Threetwo x = pulled(1, 5, 7, 5, 9);
        x.cut(3, 1);
        C.due("house(4)", 4, x.house(4));
        C.due("without(3)", 2, x.without(3));
        C.due("nothing is changed", 4, x.house(4));
        C.due("no FIELD is gone", "aaabaaacc", x.fields());
        C.due("the only one", 0, strip(3).without(0));
        C.due("the last one", Model.bestPath(java.util.List.of(5, 5, 5, 7, 5, 5, 5, 9), 6).cost, x.without(8));
        C.due("the first one", Model.bestPath(java.util.List.of(5, 5, 7, 5, 5, 5, 9, 9), 6).cost, x.without(0));
        String before = path(x);
        x.without(2);
        C.due("the path stays", before, path(x));
        C.dueIndex("without(9)", () -> x.without(9));
        C.dueIndex("without(-1)", () -> x.without(-1));
        C.dueIndex("without(MIN)", () -> x.without(MIN));
        C.dueIndex("without(MAX)", () -> x.without(MAX));
        C.dueIndex("without(0) without FIELDS", () -> new Threetwo().without(0));
        keeps("without", house -> house.without(4));
    }

    private static void promise24IsSound() {
        C.due("new", true, new Threetwo().isSound());
        C.due("full", true, full().isSound());
        Threetwo x = printed(looks(1, 5, 9, 12, 13), looks(1, 9, 12), looks(40, 41, 1, 5, 8, 12, 12, 12, 12, 12));
        C.due("three PRINTS", true, x.isSound());
        C.due("one just between two", true, printed(looks(), looks(1), looks(1, 1)).isSound());
        for (int rate = 1; rate <= 50; rate++) {
            Threetwo sent = sent(rate, 99, 0, 3, 50, 0, 0, 7, 99);
            C.due("sound by " + rate, true, sent.isSound());
            int least = sent.house(9);
            C.due("never DRY by " + rate, -1, sent.dry(least));
            C.due("DRY by one less, by " + rate, true, least == 0 || sent.dry(least - 1) != -1);
        }
        C.due("unchanged by it", portrait(full()), portrait(asked(full())));
    }

    private static Threetwo asked(Threetwo x) {
        x.isSound();
        return x;
    }

    private static void promise25Digest() {
        C.due("new", 5655970354736624501L, new Threetwo().digest());
        Threetwo x = full();
        long d = digestByCalls(x);
        C.due("full", d, x.digest());
        C.due("twice", d, x.digest());
        int[] many = new int[24];
        for (int k = 0; k < 24; k++) {
            many[k] = k * k % 100;
        }
        Threetwo most = pulled(1, many);
        most.print();
        C.due("of 60 FIELDS", digestByCalls(most), most.digest());
        Threetwo sent = sent(5, 40);
        C.due("DRY by 3", digestByCalls(sent), sent.digest());
        Threetwo nearly = sent(10, 40);
        C.due("DRY by 2 and not by 3", digestByCalls(nearly), nearly.digest());
        Threetwo just = sent(10, 50);
        C.due("DRY by 3 and not by 4", digestByCalls(just), just.digest());
    }
}
