/** Each sentence of the document about what is foretold, and about scrapes, that names an edge. */
public final class ForetoldEdgeTests {
    private static final int NONE = OneHinge.NONE, UNKNOWN = OneHinge.UNKNOWN, OUTSIDE = OneHinge.OUTSIDE;
    private static final int NOT = OneHinge.NOT, FULL = OneHinge.FULL;
    private static final int ON = 0, BACK = 1;
    private static final int LEAST = Integer.MIN_VALUE, GREATEST = Integer.MAX_VALUE;

    /** Rooms 0 .. 3 of two steps and the rest, pushed on together past a door at 10. */
    private static final String ROW =
            "house 5;leaf 1 2;leaf 2 4;leaf 3 6;leaf 4 8;put 0 1;put 1 1;put 2 1;put 3 1;door 10";

    private final Check check = new Check();

    public static void main(String[] args) {
        ForetoldEdgeTests tests = new ForetoldEdgeTests();
        tests.turnIsFrom0To72();
        tests.turnIsNone();
        tests.turnIsRefused();
        tests.bestIsTheLeast();
        tests.bestOfSeveral();
        tests.bestIsNone();
        tests.widestByAllThatAreNotFixed();
        tests.furtherIsWidthBy2Cut();
        tests.shareIsInLowestTerms();
        tests.errandsOfNoneAndOfFive();
        tests.errandsAreRefused();
        tests.errandsHaveNoOrder();
        tests.errandsGoToTheLesserSide();
        tests.errandsOfFewestSteps();
        tests.errandsOfSeveralTheFirst();
        tests.slamTillItTouches();
        tests.slamIsRefused();
        tests.fireWithNobodyLeft();
        tests.firePutsOutOneOfEachRoom();
        tests.fireGoesFirstOutThenAStep();
        tests.fireWithin200();
        tests.eightAreSeen();
        tests.leastByTheShorterWay();
        tests.countsAre0To7();
        tests.check.end();
    }

    private void due(String call, long got, long want) {
        check.due(call, got, want);
    }

    // ---- turn and best

    private void turnIsFrom0To72() {
        check.sentence("the fewest STEPS (0 .. 72) of a PUSH by which the ROOM is OPEN");
        OneHinge x = check.told("door 1;door 19;fixed 3");
        for (int leaf = 0; leaf < 4; leaf++) {
            due("open: 0 on by " + leaf, x.turn(leaf, ON, 0), 0);
            due("open: 0 back by " + leaf, x.turn(leaf, BACK, 1), 0);
        }
        due("1 step", check.told("door 18").turn(1, ON, 0), 1);
        due("1 step back", check.told("door 18").turn(1, BACK, 1), 1);
        due("2 steps, past the leaf", check.told("door 19").turn(1, ON, 0), 2);
        due("the fewest, where it is open again later",
                check.told("house 3;leaf 1 1;leaf 2 3;put 1 1;door 20").turn(0, ON, 1), 18);
        String[] texts = {"leaf 1 1;leaf 2 3;put 1 1;door 1", "leaf 1 2;leaf 2 4;put 1 1;door 2",
            "leaf 1 3;leaf 2 5;put 1 1;door 3"};
        int[] turns = {71, 72, NONE};
        for (int i = 0; i < texts.length; i++) {
            due("house 3;" + texts[i], check.told("house 3;" + texts[i]).turn(0, ON, 1), turns[i]);
        }
        OneHinge back = check.told("house 3;leaf 0 0;leaf 2 70;leaf 1 68;put 1 1;door 70");
        due("72 back", back.turn(0, BACK, 1), 72);
    }

    private void turnIsNone() {
        check.sentence("TURN; NONE");
        due("no door", new OneHinge().turn(0, ON, 0), NONE);
        OneHinge x = check.told("fixed 2;leaf 2 40;door 39;door 40");
        due("as far as it goes, to the door", x.turn(1, ON, 0), NONE);
        due("by a fixed one", x.turn(2, ON, 2), NONE);
        due("by a leaf that is not of the room", x.turn(3, ON, 0), NONE);
        OneHinge y = check.told("fixed 2;leaf 2 41;door 39");
        due("as far as it goes, one past the door", y.turn(1, ON, 0), 22);
        due("nothing changes", y.leaf(1, 1), 18);
    }

    private void turnIsRefused() {
        check.sentence("turn: UNKNOWN; OUTSIDE: side");
        OneHinge x = check.told("door 1");
        for (int wrong : new int[] {-1, 4, 8, LEAST, GREATEST}) {
            due("leaf " + wrong, x.turn(wrong, ON, 0), UNKNOWN);
            due("room " + wrong, x.turn(0, ON, wrong), UNKNOWN);
            due("leaf " + wrong + ", side too", x.turn(wrong, 2, 0), UNKNOWN);
            due("room " + wrong + ", side too", x.turn(0, 2, wrong), UNKNOWN);
        }
        for (int side : new int[] {-1, 2, LEAST, GREATEST}) {
            due("side " + side + ", open", x.turn(0, side, 0), OUTSIDE);
            due("side " + side + ", not open", x.turn(0, side, 1), OUTSIDE);
        }
    }

    private void best(String when, OneHinge x, int room, int steps, int leaf, int side) {
        due(when + ": best(" + room + ", 0)", x.best(room, 0), steps);
        due(when + ": best(" + room + ", 1)", x.best(room, 1), leaf);
        due(when + ": best(" + room + ", 2)", x.best(room, 2), side);
    }

    private void bestIsTheLeast() {
        check.sentence("BEST for a ROOM: the LEAF and the side by which TURN is least");
        best("by the second leaf", check.told("door 36"), 1, 1, 2, ON);
        best("by the first leaf", check.told("door 18"), 1, 1, 1, BACK);
        best("by one step less", check.told("door 17;door 36"), 1, 1, 2, ON);
        best("by one step less, back", check.told("door 16;door 37"), 1, 2, 2, ON);
        best("on, carrying",
                check.told("house 3;leaf 1 1;leaf 2 3;put 1 1;heavy 1;fixed 0;door 5"), 1, 3, 1, ON);
        // Leaf 0, heavy, goes back by the one step that is left, then all others go with it, nearly once round.
        best("by 71", check.told("house 5;leaf 1 1;leaf 2 14;leaf 3 32;leaf 4 51;put 1 12;put 2 16;put 3 18;put 4 20"
                + ";heavy 0;door 2"), 0, 71, 0, BACK);
        best("by 69", check.told("house 3;fixed 0;leaf 1 1;leaf 2 71;door 69"), 0, 69, 1, ON);
        best("by the last leaf of eight", check.told("house 8;fixed 0;door 61"), 7, 3, 7, BACK);
    }

    private void bestOfSeveral() {
        check.sentence("of several the least LEAF, then ON");
        best("open by all", check.told("door 55"), 3, 0, 0, ON);
        best("open, though fixed", check.told("door 55;fixed 0"), 3, 0, 0, ON);
        best("leaves 1 and 2", check.told("door 18;door 36"), 1, 1, 1, BACK);
        best("leaves 0 and 3", check.told("door 0;door 54"), 3, 1, 0, ON);
        // Leaf 1 back carries leaf 0: the door at 69 comes between them at the third step of either.
        best("leaves 0 and 1",
                check.told("house 3;leaf 0 71;leaf 1 1;put 0 1;leaf 2 23;fixed 2;door 69"), 0, 3, 0, BACK);
        best("one leaf, both sides alike", bothSidesAlike(), 0, 3, 0, ON);
    }

    /** Leaf 0 is heavy and all touch, so that none but it moves; room 0 has doors three steps off on both sides. */
    private OneHinge bothSidesAlike() {
        return check.told("house 8;put 0 8;put 1 8;put 2 8;put 3 8;put 4 8;put 5 8;put 6 8;put 7 8"
                + ";heavy 0;door 11;door 70");
    }

    private void bestIsNone() {
        check.sentence("best: STEPS (what 0), the LEAF (1), the side (2); NONE. UNKNOWN; OUTSIDE");
        OneHinge x = check.told("fixed 0;fixed 1;fixed 2;fixed 3;door 0;door 19");
        best("all are fixed", x, 0, NONE, NONE, NONE);
        best("all are fixed, open", x, 1, 0, 0, ON);
        best("no door", new OneHinge(), 3, NONE, NONE, NONE);
        for (int wrong : new int[] {-1, 4, 8, LEAST, GREATEST}) {
            due("room " + wrong, x.best(wrong, 0), UNKNOWN);
            due("room " + wrong + ", what too", x.best(wrong, 3), UNKNOWN);
        }
        for (int what : new int[] {-1, 3, LEAST, GREATEST}) {
            due("what " + what, x.best(0, what), OUTSIDE);
        }
    }

    // ---- widths

    private void widestByAllThatAreNotFixed() {
        check.sentence("WIDEST: all LEAVES but FIXED ones moved as one likes, in their order, each ROOM as wide as it "
                + "NEEDS at least");
        for (int n = 3; n <= 8; n++) {
            OneHinge x = check.told("house " + n);
            for (int room = 0; room < n; room++) {
                due(n + " leaves, room " + room, x.widest(room), 73 - n);
            }
            check.tell(x, "fixed 0");
            due(n + " leaves, one fixed, room 0", x.widest(0), 73 - n);
            due(n + " leaves, one fixed, the last room", x.widest(n - 1), 73 - n);
            due(n + " leaves, one fixed, room 1", x.widest(1), 73 - n);
        }
        OneHinge y = check.told("house 6;fixed 1;fixed 4;put 1 3;put 2 2;put 5 11;heavy 2;sprung 3");
        int[] wide = {36 - 12 - 1, 36 - 3 - 1, 36 - 4 - 1, 36 - 4 - 3, 36 - 12 - 1, 36 - 1 - 1};
        for (int room = 0; room < 6; room++) {
            due("between two fixed ones, room " + room, y.widest(room), wide[room]);
        }
        due("push(2, 0, 4)", y.push(2, ON, 4), 4);
        due("wherever they are now", y.widest(2), wide[2]);
        OneHinge z = check.told("house 3;fixed 0;fixed 1;fixed 2;leaf 1 1");
        due("all fixed", z.widest(0), 1);
        due("all fixed", z.widest(1), 47);
        due("as wide as all need", check.told("house 3;put 0 20;put 1 20").widest(2), 30);
        for (int wrong : new int[] {-1, 3, 8, LEAST, GREATEST}) {
            due("room " + wrong, z.widest(wrong), UNKNOWN);
        }
    }

    private void furtherIsWidthBy2Cut() {
        check.sentence("FURTHER: WIDTH by 2, cut; NEED of FURNITURE aside: of several the least, how wide the lesser "
                + "part is. OUTSIDE");
        OneHinge x = check.told("leaf 1 17;leaf 2 35");
        due("17, 18, 19, 18: by 2, cut", x.further(0), 1);
        due("9", x.further(1), 9);
        check.tell(x, "leaf 3 55");
        due("17, 18, 20, 17", x.further(0), 2);
        due("10", x.further(1), 10);
        check.tell(x, "put 2 19");
        due("furniture aside", x.further(0), 2);
        due("all alike", check.told("house 8").further(0), 0);
        due("9 by 2", check.told("house 8").further(1), 4);
        due("18, 18, 17, 19", check.told("leaf 3 53").further(0), 0);
        due("18, 18, 16, 20: the last room", check.told("leaf 3 52").further(0), 3);
        OneHinge y = check.told("house 3;leaf 1 1;leaf 2 2");
        due("70 by 2", y.further(1), 35);
        due("push(1, 0, 1)", y.push(1, ON, 1), 1);
        due("69 by 2, cut", y.further(1), 34);
        for (int what : new int[] {-1, 2, LEAST, GREATEST}) {
            due("further(" + what + ")", y.further(what), OUTSIDE);
        }
    }

    private void shareIsInLowestTerms() {
        check.sentence("SHARE of a ROOM: WIDTH by 72; in lowest terms: above (part 0), below (1). UNKNOWN; OUTSIDE");
        for (int width = 1; width <= 70; width++) {
            OneHinge x = check.told("house 3;leaf 2 71;leaf 1 " + width);
            int common = java.math.BigInteger.valueOf(width).gcd(java.math.BigInteger.valueOf(72)).intValue();
            due("above, width " + width, x.share(0, 0), width / common);
            due("below, width " + width, x.share(0, 1), 72 / common);
            due("above, the room behind", x.share(2, 0), 1);
            due("below, the room behind", x.share(2, 1), 72);
        }
        OneHinge y = new OneHinge();
        due("above, over 71", y.share(3, 0), 1);
        due("below, over 71", y.share(3, 1), 4);
        for (int wrong : new int[] {-1, 4, 8, LEAST, GREATEST}) {
            due("room " + wrong, y.share(wrong, 0), UNKNOWN);
            due("room " + wrong + ", part too", y.share(wrong, 2), UNKNOWN);
        }
        for (int part : new int[] {-1, 2, LEAST, GREATEST}) {
            due("part " + part, y.share(0, part), OUTSIDE);
        }
    }

    // ---- errands

    private void errands(OneHinge x, int leaf, int steps, int... order) {
        int rooms = 0;
        for (int room : order) {
            rooms |= 1 << room;
        }
        due("errands: steps", x.errands(rooms, leaf, NONE), steps);
        for (int i = 0; i < order.length; i++) {
            due("errands: room " + i, x.errands(rooms, leaf, i), order[i]);
        }
        for (int i : new int[] {order.length, order.length + 1, 5, 6, GREATEST}) {
            due("errands: not so many as " + i, x.errands(rooms, leaf, i), NONE);
        }
    }

    private void errandsOfNoneAndOfFive() {
        check.sentence("ERRANDS to a set of ROOMS (5 at most): STEPS (i NONE), the i-th ROOM; NONE: not so many");
        errands(new OneHinge(), 0, 0);
        errands(check.told("door 1;fixed 0"), 0, 0);
        errands(check.told("door 55"), 0, 0, 3);
        errands(check.told("door 17"), 1, 2, 0, 1);
        errands(check.told(ROW), 0, 9, 4, 3, 2, 1, 0);
        errands(check.told(ROW), 0, 9, 4, 3, 2, 0);
        OneHinge x = check.told("house 8;door 1;door 28;door 55");
        due("five, the last of them room 7", x.errands(0b11010101, 0, 0), NONE);
    }

    private void errandsAreRefused() {
        check.sentence("errands: UNKNOWN (a set with such); OUTSIDE: i below NONE; NOT: more than 5");
        for (int n = 3; n <= 8; n++) {
            OneHinge x = check.told("house " + n + ";door 1");
            due(n + ": a room behind the last", x.errands(1 << n, 0, NONE), UNKNOWN);
            due(n + ": one of them", x.errands(1 | 1 << n, 0, 0), UNKNOWN);
            due(n + ": the last one", x.errands(1 << n - 1, 0, -2), OUTSIDE);
            for (int rooms : new int[] {-1, LEAST, GREATEST, 256, 1 << 30}) {
                due(n + ": rooms " + rooms, x.errands(rooms, 0, NONE), UNKNOWN);
                due(n + ": rooms " + rooms + ", i too", x.errands(rooms, 0, -2), UNKNOWN);
            }
            for (int leaf : new int[] {-1, n, LEAST, GREATEST}) {
                due(n + ": leaf " + leaf, x.errands(1, leaf, NONE), UNKNOWN);
                due(n + ": leaf " + leaf + ", none to do", x.errands(0, leaf, NONE), UNKNOWN);
                due(n + ": leaf " + leaf + ", i too", x.errands(1, leaf, -2), UNKNOWN);
            }
            for (int i : new int[] {-2, -3, LEAST}) {
                due(n + ": i " + i, x.errands(1, 0, i), OUTSIDE);
                due(n + ": i " + i + ", none to do", x.errands(0, 0, i), OUTSIDE);
            }
        }
        OneHinge y = check.told("house 8;door 1");
        due("six", y.errands(0b11111100, 0, NONE), NOT);
        due("six, i 0", y.errands(0b111111, 0, 0), NOT);
        due("eight", y.errands(255, 0, 9), NOT);
        due("six, i below NONE", y.errands(0b111111, 0, -2), OUTSIDE);
        due("six, no such leaf", y.errands(0b111111, 8, NONE), UNKNOWN);
        due("six, no such room", y.errands(0b100111111, 0, NONE), UNKNOWN);
        due("five", y.errands(0b11111000, 0, NONE), NONE);
        due("five, i below NONE", y.errands(0b11111, 0, -2), OUTSIDE);
    }

    private void errandsHaveNoOrder() {
        check.sentence("NONE: there is no order");
        OneHinge x = check.told("door 1;fixed 1");
        for (int i = NONE; i < 3; i++) {
            due("room 1 is shut for good, i " + i, x.errands(3, 0, i), NONE);
            due("no door, i " + i, new OneHinge().errands(1, 0, i), NONE);
        }
        due("the open one alone", x.errands(1, 0, NONE), 0);
        // Room 0 is open at first and never again behind the way to room 1: one order is left.
        errands(check.told("fixed 0;door 17;leaf 2 20;put 1 1;fixed 3;leaf 3 40"), 2, 2, 0, 1);
    }

    private void errandsGoToTheLesserSide() {
        check.sentence("the LEAF is PUSHED to that side by which TURN for the next ROOM is less (of like ones ON)");
        OneHinge x = check.told("put 0 17;door 20;door 70");
        due("on", x.turn(0, ON, 0), 3);
        due("back", x.turn(0, BACK, 0), 3);
        errands(x, 0, 3, 0, 3);
        OneHinge y = check.told("put 0 17;door 21;door 70");
        due("on is one more", y.turn(0, ON, 0), 4);
        due("back", y.turn(0, BACK, 0), 3);
        errands(y, 0, 3, 3, 0);
        errands(y, 0, 3, 0);
        OneHinge z = check.told("put 0 17;door 20;door 69");
        due("on is one less", z.turn(0, ON, 0), 3);
        due("back", z.turn(0, BACK, 0), 4);
        errands(z, 0, 3, 0, 3);
    }

    private void errandsOfFewestSteps() {
        check.sentence("from where all stands then; the order by which STEPS are fewest together");
        errands(check.told("door 16"), 1, 3, 0, 1);
        errands(check.told("door 20"), 1, 3, 1, 0);
        errands(check.told("house 3;leaf 0 3;leaf 2 45;put 0 20;put 1 20;put 2 20;door 0;door 24;door 70"),
                0, 10, 2, 1, 0);
        errands(check.told("house 3;leaf 1 1;leaf 2 3;put 1 1;door 1"), 0, 71, 2, 1);
        // By 0, 1 it is 3 on and 1 back, by 1, 0 none and 3 on: one less.
        errands(check.told("door 20;door 21"), 1, 3, 1, 0);
        // By 1, 0 the way to room 1 is 1 back, and 2 on to room 0: one more than by 0, 1.
        errands(check.told("door 18;door 37;put 1 17"), 1, 2, 0, 1);
        // On, room 2 goes round as narrow as it is; back, leaf 2 comes to the door when leaf 3 has left it.
        errands(check.told("house 4;leaf 1 3;leaf 2 6;leaf 3 7;put 0 2;put 1 2;put 3 20;door 7"), 2, 72, 2);
        // 12 back open room 1, all but leaf 0 carried; 68 on open room 2. The other way is 56 on and 68 back.
        errands(check.told("house 3;leaf 0 70;leaf 2 66;leaf 1 59;put 1 4;door 53"), 0, 80, 1, 2);
        OneHinge x = check.told("door 16");
        due("nothing changes", x.errands(3, 1, NONE), 3);
        check.angles("nothing changes", x, 0, 18, 36, 54);
    }

    private void errandsOfSeveralTheFirst() {
        check.sentence("of several the first (by ROOMS)");
        errands(check.told("door 1;door 19;door 37"), 3, 0, 0, 1, 2);
        errands(check.told("door 20;door 34"), 1, 3, 0, 1);
        errands(check.told("house 8;door 64;door 55;door 46"), 0, 0, 5, 6, 7);
    }

    // ---- slam and fire

    private void slamTillItTouches() {
        check.sentence("SLAM: how many STEPS it moves till it touches, CARRYING none, and which LEAF it touches");
        OneHinge x = check.told("leaf 1 1;put 3 7;fixed 1;heavy 3");
        due("it touches on", x.slam(0, ON, 0), 0);
        due("a fixed one", x.slam(0, ON, 1), 1);
        due("back", x.slam(0, BACK, 0), 10);
        due("a heavy one", x.slam(0, BACK, 1), 3);
        due("a heavy one on", x.slam(3, ON, 0), 10);
        due("touches leaf 0", x.slam(3, ON, 1), 0);
        due("though plain ones could be carried", check.told("leaf 1 3").slam(0, ON, 0), 2);
        due("the most", check.told("house 3;leaf 1 1;leaf 2 2").slam(2, ON, 0), 69);
        due("push(0, 1, 10)", x.push(0, BACK, 10), 10);
        due("it touches back", x.slam(0, BACK, 0), 0);
        due("on then", x.slam(0, ON, 0), 10);
        due("nothing changes", x.leaf(0, 1), 62);
    }

    private void slamIsRefused() {
        check.sentence("slam: UNKNOWN; OUTSIDE; NOT: it is FIXED");
        OneHinge x = check.told("fixed 2;heavy 1");
        for (int wrong : new int[] {-1, 4, 8, LEAST, GREATEST}) {
            due("leaf " + wrong, x.slam(wrong, ON, 0), UNKNOWN);
            due("leaf " + wrong + ", side too", x.slam(wrong, 2, 0), UNKNOWN);
            due("leaf " + wrong + ", what too", x.slam(wrong, ON, 2), UNKNOWN);
        }
        for (int wrong : new int[] {-1, 2, LEAST, GREATEST}) {
            due("side " + wrong, x.slam(0, wrong, 0), OUTSIDE);
            due("what " + wrong, x.slam(0, ON, wrong), OUTSIDE);
            due("side " + wrong + ", fixed too", x.slam(2, wrong, 0), OUTSIDE);
            due("what " + wrong + ", fixed too", x.slam(2, BACK, wrong), OUTSIDE);
        }
        for (int what = 0; what < 2; what++) {
            due("fixed on", x.slam(2, ON, what), NOT);
            due("fixed back", x.slam(2, BACK, what), NOT);
        }
        due("heavy", x.slam(1, ON, 0), 17);
    }

    private void fireWithNobodyLeft() {
        check.sentence("FIRE: how many MINUTES till all are OUT (0, if they are). UNKNOWN; OUTSIDE: side");
        due("nobody", new OneHinge().fire(0, ON), 0);
        OneHinge x = check.told("door 1;fixed 3;person 0");
        due("one", x.fire(3, ON), 1);
        due("leave(0)", x.leave(0), 0);
        due("he is out", x.fire(3, ON), 0);
        due("enter(0, 0)", x.enter(0, 0), 1);
        due("he is in", x.fire(3, BACK), 1);
        for (int wrong : new int[] {-1, 4, 8, LEAST, GREATEST}) {
            due("leaf " + wrong, x.fire(wrong, ON), UNKNOWN);
            due("leaf " + wrong + ", side too", x.fire(wrong, 2), UNKNOWN);
            due("nobody, leaf " + wrong, new OneHinge().fire(wrong, ON), UNKNOWN);
        }
        for (int side : new int[] {-1, 2, LEAST, GREATEST}) {
            due("side " + side, x.fire(0, side), OUTSIDE);
            due("nobody, side " + side, new OneHinge().fire(0, side), OUTSIDE);
        }
    }

    private void firePutsOutOneOfEachRoom() {
        check.sentence("in each MINUTE first one of PEOPLE (the least) of each OPEN ROOM is OUT");
        due("five of one room",
                check.told("fixed 0;door 1;person 0;person 0;person 0;person 0;person 0").fire(0, ON), 5);
        due("one each of three",
                check.told("fixed 0;door 1;door 19;door 37;person 0;person 1;person 2").fire(0, ON), 1);
        due("two doors are one room", check.told("fixed 0;door 1;door 2;person 0;person 0").fire(0, ON), 2);
        due("three and two", check.told("fixed 0;door 1;door 71;person 0;person 3;person 0;person 3;person 0")
                .fire(0, ON), 3);
        due("one is shut in", check.told("fixed 0;door 1;person 0;person 1").fire(0, ON), NONE);
        due("of eight rooms", check.told("house 8;fixed 0;door 1;door 64;person 0;person 7;person 7").fire(0, ON), 2);
    }

    private void fireGoesFirstOutThenAStep() {
        check.sentence("first one is OUT, then the LEAF takes a STEP (if it can)");
        due("out, though the step shuts the room", check.told("door 17;person 0").fire(1, BACK), 1);
        due("the second is shut in", check.told("door 17;person 0;person 0;fixed 0").fire(1, BACK), NONE);
        due("the step opens it", check.told("door 18;person 0").fire(1, ON), 2);
        due("the leaf stands, others go out",
                check.told("fixed 1;leaf 1 1;heavy 3;door 60;person 3;person 3").fire(0, ON), 2);
        // Leaf 1 carries all others once round: room 0, of two steps then, is at the door again behind 72 steps.
        OneHinge x = check.told("put 0 1;door 17;person 0;person 0");
        due("carried round", x.fire(1, BACK), 73);
        due("nothing changes", x.leaf(1, 1), 18);
        due("nobody is out", x.count(5), 0);
    }

    private void fireWithin200() {
        check.sentence("none: not in 200");
        // A room of two steps goes round with all others: its door is between the leaves once in 72 minutes.
        String round = "house 3;leaf 1 1;leaf 2 3;put 1 1;person 1;person 1;person 1;door ";
        due("199", check.told(round + 56).fire(0, ON), 199);
        due("200", check.told(round + 57).fire(0, ON), 200);
        due("201", check.told(round + 58).fire(0, ON), NONE);
        due("two of them", check.told("house 3;leaf 1 1;leaf 2 3;put 1 1;person 1;person 1;door 58").fire(0, ON), 129);
    }

    // ---- scrapes and counts

    private void eightAreSeen() {
        check.sentence("SCRAPES: what was SEEN, 8 at most. UNKNOWN; OUTSIDE: the ANGLE; FULL");
        OneHinge x = new OneHinge();
        due("forget() of none", x.forget(), 0);
        for (int wrong : new int[] {-1, 4, 8, LEAST, GREATEST}) {
            due("leaf " + wrong, x.seen(wrong, 0), UNKNOWN);
            due("leaf " + wrong + ", angle too", x.seen(wrong, 72), UNKNOWN);
        }
        for (int angle : new int[] {-1, 72, 73, LEAST, GREATEST}) {
            due("angle " + angle, x.seen(0, angle), OUTSIDE);
        }
        due("none of these is seen", x.count(6), 0);
        for (int i = 1; i <= 8; i++) {
            due("seen(" + i % 4 + ", " + (i % 2) * 71 + ")", x.seen(i % 4, i % 2 * 71), i);
            due("count(6)", x.count(6), i);
        }
        int least = x.least(0);
        due("a ninth", x.seen(0, 30), FULL);
        due("a ninth of a leaf that is not there", x.seen(4, 30), UNKNOWN);
        due("a ninth out of its bounds", x.seen(0, 72), OUTSIDE);
        due("still eight", x.count(6), 8);
        due("the ninth is not of them", x.least(0), least);
        check.sentence("SEEN is nothing: how many there were");
        due("forget()", x.forget(), 8);
        due("count(6)", x.count(6), 0);
        due("forget() again", x.forget(), 0);
        due("seen again", x.seen(3, 71), 1);
        due("forget() of one", x.forget(), 1);
    }

    private void leastByTheShorterWay() {
        check.sentence("LEAST: the fewest STEPS from its HOME by all SEEN of it, in their order, to its ANGLE now, "
                + "each time by the shorter way");
        for (int angle = 0; angle < 72; angle++) {
            OneHinge x = new OneHinge();
            x.seen(1, angle);
            int there = Math.min(Math.floorMod(angle - 18, 72), Math.floorMod(18 - angle, 72));
            due("to " + angle + " and home", x.least(1), 2 * there);
        }
        OneHinge x = new OneHinge();
        due("nothing seen, at home", x.least(0), 0);
        due("push(0, 1, 5)", x.push(0, BACK, 5), 5);
        due("nothing seen", x.least(0), 5);
        x.seen(0, 36);
        due("36 and 31", x.least(0), 67);
        x.seen(1, 0);
        due("another leaf's is not of it", x.least(0), 67);
        due("18 and 18", x.least(1), 36);
        x.seen(0, 35);
        x.seen(0, 37);
        due("36, 1, 2 and 30", x.least(0), 69);
        x.forget();
        x.seen(0, 37);
        x.seen(0, 35);
        x.seen(0, 36);
        due("in another order: 35, 2, 1 and 31", x.least(0), 69);
        x.seen(0, 1);
        due("35, 2, 1, 35 and 6", x.least(0), 79);
        OneHinge y = new OneHinge();
        for (int i = 0; i < 8; i++) {
            y.seen(2, i % 2 == 0 ? 0 : 36);
        }
        due("eight times 36", y.least(2), 288);
        for (int wrong : new int[] {-1, 4, 8, LEAST, GREATEST}) {
            due("leaf " + wrong, y.least(wrong), UNKNOWN);
        }
    }

    private void countsAre0To7() {
        check.sentence("0 LEAVES, 1 DOORS, 2 PEOPLE, 3 HOURS, 4 OPEN ROOMS, by bits, 5 PEOPLE that are OUT, by bits, "
                + "6 SEEN, 7 bytes of THE TEXT. OUTSIDE");
        OneHinge x = check.told("house 8;door 1;door 64;door 65;person 7;person 0;person 7;person 1;person 7");
        due("leave(4)", x.leave(4), 7);
        due("leave(1)", x.leave(1), 0);
        due("hours(50)", x.hours(50), 50);
        x.seen(7, 0);
        Check.write(x, "x".repeat(200));
        int[] counts = {8, 3, 5, 50, 129, 18, 1, 200};
        for (int what = 0; what < 8; what++) {
            due("count(" + what + ")", x.count(what), counts[what]);
        }
        for (int what : new int[] {-1, 8, 9, LEAST, GREATEST}) {
            due("count(" + what + ")", x.count(what), OUTSIDE);
        }
    }
}
