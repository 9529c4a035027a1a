/** Each sentence of the document about steps, hours and people that names an edge, with a test of its own. */
public final class StepEdgeTests {
    private static final int NONE = OneHinge.NONE, UNKNOWN = OneHinge.UNKNOWN, OUTSIDE = OneHinge.OUTSIDE;
    private static final int NOT = OneHinge.NOT, FULL = OneHinge.FULL;
    private static final int ON = 0, BACK = 1;

    /** Eight rooms of nine steps, each as wide as it needs. */
    private static final String TIGHT =
            "house 8;put 0 8;put 1 8;put 2 8;put 3 8;put 4 8;put 5 8;put 6 8;put 7 8";

    private final Check check = new Check();

    public static void main(String[] args) {
        StepEdgeTests tests = new StepEdgeTests();
        tests.stepsIfTheRoomIsWiderThanItsNeed();
        tests.carriesPlainAndSprungOnes();
        tests.carriesNoHeavyAndNoFixedOne();
        tests.carriesSoOn();
        tests.carriesRoundToItsOwnBack();
        tests.allMoveIfAllTouch();
        tests.allMoveIfAllOthersCanBeCarried();
        tests.fixedOnesDoNotMove();
        tests.pushesGoAsFarAsTheyGo();
        tests.openBetweenTheLeavesAlone();
        tests.sprungOnesComeHome();
        tests.homeByTheShorterWay();
        tests.hoursGoByNumbers();
        tests.hoursAreAStepThatCarries();
        tests.hoursUpTo9999();
        tests.kindsAreOverOneAnother();
        tests.asTellsBothSides();
        tests.leafAndRoomAreAsked();
        tests.personsAreAsked();
        tests.leaveByAnOpenRoom();
        tests.enterAnOpenRoom();
        tests.keepTwice();
        tests.backAsKept();
        tests.check.end();
    }

    private void due(String call, long got, long want) {
        check.due(call, got, want);
    }

    // ---- steps

    private void stepsIfTheRoomIsWiderThanItsNeed() {
        check.sentence("moves it by one STEP, if the ROOM on that side is wider than its NEED");
        OneHinge x = check.told("fixed 1;fixed 3;leaf 1 20;put 0 17;put 3 15");
        due("room 0 is wider by two", x.as(0, 1), 3);
        due("two steps on", x.push(0, ON, 72), 2);
        due("as wide as it needs", x.room(0, 0), 18);
        due("only back", x.as(0, 1), 2);
        due("four steps back", x.push(0, BACK, 72), 4);
        due("room 3 as wide as it needs", x.room(3, 0), 16);
        due("only on", x.as(0, 1), 1);
        OneHinge y = check.told("fixed 1;fixed 3;put 0 17;put 3 17");
        due("neither", y.as(0, 1), 0);
        due("no step on", y.push(0, ON, 1), 0);
        due("no step back", y.push(0, BACK, 1), 0);
        due("it stands", y.leaf(0, 1), 0);
    }

    private void carriesPlainAndSprungOnes() {
        check.sentence("else, if the next LEAF on that side is PLAIN or SPRUNG and can take such a STEP itself, "
                + "it CARRIES that, both move");
        for (String kind : new String[] {"plain", "sprung"}) {
            for (String pushed : new String[] {"plain", "sprung", "heavy"}) {
                OneHinge x = check.told(pushed + " 0;" + kind + " 1;" + kind + " 3;leaf 1 1;leaf 3 71");
                due(pushed + " on carries " + kind, x.push(0, ON, 1), 1);
                check.angles("both move", x, 1, 2, 36, 71);
                due(pushed + " back, alone first", x.push(0, BACK, 2), 2);
                check.angles("then both move", x, 71, 2, 36, 70);
            }
        }
        OneHinge y = check.told("leaf 1 10;put 0 8");
        due("alone while the room is wider", y.push(0, ON, 1), 1);
        check.angles("alone", y, 1, 10, 36, 54);
        due("then with the next", y.push(0, ON, 1), 1);
        check.angles("both", y, 2, 11, 36, 54);
    }

    private void carriesNoHeavyAndNoFixedOne() {
        check.sentence("if the next LEAF on that side is PLAIN or SPRUNG; else it does not move");
        for (String kind : new String[] {"heavy", "fixed"}) {
            for (String pushed : new String[] {"plain", "sprung", "heavy"}) {
                OneHinge x = check.told(pushed + " 0;" + kind + " 1;" + kind + " 3;leaf 1 2;leaf 3 70");
                due(pushed + " on to " + kind, x.push(0, ON, 72), 1);
                due("no further", x.push(0, ON, 1), 0);
                due(pushed + " back to " + kind, x.push(0, BACK, 72), 2);
                due("no further", x.push(0, BACK, 1), 0);
                check.angles("the others stand", x, 71, 2, 36, 70);
            }
        }
    }

    private void carriesSoOn() {
        check.sentence("so on; else it does not move");
        OneHinge x = check.told("house 6;leaf 1 1;leaf 2 2;leaf 3 3;leaf 4 4;sprung 2");
        due("four are carried", x.push(0, ON, 1), 1);
        check.angles("all five", x, 1, 2, 3, 4, 5, 60);
        due("back again alone", x.push(0, BACK, 1), 1);
        check.angles("alone", x, 0, 2, 3, 4, 5, 60);
        for (String kind : new String[] {"heavy", "fixed"}) {
            OneHinge y = check.told("house 6;leaf 1 1;leaf 2 2;leaf 3 3;leaf 4 4;" + kind + " 3");
            due(kind + " stops the row", y.push(0, ON, 1), 0);
            due("from leaf 1 too", y.push(1, ON, 1), 0);
            due("from leaf 2 too", y.push(2, ON, 1), 0);
            due("from leaf 4 back too", y.push(4, BACK, 1), 0);
            check.angles("none moved", y, 0, 1, 2, 3, 4, 60);
            due("from leaf 2 back", y.push(2, BACK, 1), 1);
            check.angles("it carries two", y, 71, 0, 1, 3, 4, 60);
        }
    }

    private void carriesRoundToItsOwnBack() {
        check.sentence("can take such a STEP itself (likewise): the last one carried may go where the pushed one was");
        OneHinge x = check.told("house 3;leaf 1 1;leaf 2 2;heavy 0");
        due("72 steps on", x.push(0, ON, 72), 72);
        check.angles("all three go round", x, 0, 1, 2);
        due("one step on", x.push(0, ON, 1), 1);
        check.angles("all three move", x, 1, 2, 3);
        due("leaf 1 goes till leaf 2 touches the heavy one", x.push(1, ON, 72), 69);
        check.angles("at its back", x, 1, 71, 0);
    }

    private void allMoveIfAllTouch() {
        check.sentence("If all LEAVES touch one another so, all move, whichever of them is pushed");
        for (int leaf = 0; leaf < 8; leaf++) {
            OneHinge x = check.told(TIGHT);
            due("on: leaf " + leaf, x.push(leaf, ON, 1), 1);
            check.angles("all move on", x, 1, 10, 19, 28, 37, 46, 55, 64);
            due("back: leaf " + leaf, x.push(leaf, BACK, 2), 2);
            check.angles("all move back", x, 71, 8, 17, 26, 35, 44, 53, 62);
            due("all round: leaf " + leaf, x.push(leaf, ON, 72), 72);
            check.angles("all are there again", x, 71, 8, 17, 26, 35, 44, 53, 62);
            due("as(" + leaf + ", 1)", x.as(leaf, 1), 3);
        }
        OneHinge y = check.told("house 3;leaf 1 1;leaf 2 2;put 2 20");
        due("room 2 is wider than it needs: leaf 2 alone", y.push(2, ON, 1), 1);
        check.angles("alone", y, 0, 1, 3);
    }

    private void allMoveIfAllOthersCanBeCarried() {
        check.sentence("all move, whichever of them is pushed, if all others can be CARRIED");
        for (int other = 0; other < 8; other++) {
            OneHinge sprung = check.told(TIGHT + ";sprung " + other);
            OneHinge heavy = check.told(TIGHT + ";heavy " + other);
            OneHinge fixed = check.told(TIGHT + ";fixed " + other);
            for (int leaf = 0; leaf < 8; leaf++) {
                String name = "leaf " + leaf + " with another kind at " + other;
                due("sprung, on: " + name, sprung.push(leaf, ON, 3), 3);
                due("heavy, on: " + name, heavy.push(leaf, ON, 3), leaf == other ? 3 : 0);
                due("heavy, back: " + name, heavy.push(leaf, BACK, 2), leaf == other ? 2 : 0);
                due("fixed, on: " + name, fixed.push(leaf, ON, 3), 0);
                due("fixed, back: " + name, fixed.push(leaf, BACK, 3), 0);
            }
            due("all moved with the sprung one", sprung.leaf(other, 1), (9 * other + 24) % 72);
            due("all moved with the heavy one", heavy.leaf((other + 1) % 8, 1), ((other + 1) % 8 * 9 + 1) % 72);
            due("none moved with the fixed one", fixed.leaf((other + 1) % 8, 1), (other + 1) % 8 * 9);
        }
        OneHinge two = check.told(TIGHT + ";heavy 2;heavy 6");
        due("two heavy ones: the first", two.push(2, ON, 1), 0);
        due("two heavy ones: the second", two.push(6, BACK, 1), 0);
    }

    private void fixedOnesDoNotMove() {
        check.sentence("FIXED ones do not move");
        OneHinge x = check.told("fixed 2");
        due("push on", x.push(2, ON, 72), 0);
        due("push back", x.push(2, BACK, 72), 0);
        due("as", x.as(2, 4), 0);
        due("pushed against on", x.push(1, ON, 72), 17);
        due("pushed against back", x.push(3, BACK, 72), 17);
        due("hours(99)", x.hours(99), 99);
        due("it stands", x.leaf(2, 1), 36);
        due("turn by it", check.told("fixed 2;door 1").turn(2, ON, 1), NONE);
        due("turn by it, open", check.told("fixed 2;door 19").turn(2, ON, 1), 0);
    }

    private void pushesGoAsFarAsTheyGo() {
        check.sentence("by d (1 .. 72) STEPS: how many it moved; as far as it goes");
        OneHinge x = check.told("fixed 1;fixed 3");
        due("d 1", x.push(0, ON, 1), 1);
        due("as many as go", x.push(0, ON, 16), 16);
        due("none more", x.push(0, ON, 1), 0);
        due("none of 72 more", x.push(0, ON, 72), 0);
        due("less than d", x.push(0, BACK, 72), 34);
        OneHinge y = new OneHinge();
        due("d 72", y.push(0, ON, 72), 72);
        due("d 71", y.push(0, BACK, 71), 71);
        for (int d : new int[] {0, -1, 73, 100, 144, Integer.MIN_VALUE, Integer.MAX_VALUE}) {
            due("d " + d, y.push(0, ON, d), OUTSIDE);
        }
        due("it moved by none of these", y.leaf(0, 1), 1);
    }

    private void openBetweenTheLeavesAlone() {
        check.sentence("A ROOM is OPEN, if a DOOR is at a STEP between its two LEAVES (at none of them)");
        for (int door = 0; door < 72; door++) {
            OneHinge x = check.told("leaf 0 70;door " + door);
            boolean atLeaf = door == 70 || door == 18 || door == 36 || door == 54;
            int room = door > 70 || door < 18 ? 0 : door < 36 ? 1 : door < 54 ? 2 : 3;
            for (int i = 0; i < 4; i++) {
                due("door " + door + ", room " + i, x.room(i, 2), i == room && !atLeaf ? 1 : 0);
            }
            due("door " + door + ", by bits", x.count(4), atLeaf ? 0 : 1 << room);
        }
        OneHinge y = check.told("house 3;leaf 1 1;leaf 2 2;door 0;door 1;door 2");
        due("doors at leaves alone", y.count(4), 0);
        due("leaf 2 goes on", y.push(2, ON, 1), 1);
        due("a room of two steps", y.count(4), 2);
        due("two doors in one room", check.told("door 1;door 17").count(4), 1);
        due("of two doors one at a leaf", check.told("door 18;door 19").count(4), 2);
    }

    // ---- hours

    private void sprungOnesComeHome() {
        check.sentence("In an HOUR each SPRUNG LEAF takes a STEP towards its HOME, if it is not there");
        OneHinge x = check.told("sprung 0;heavy 2;fixed 3");
        due("hours(1)", x.hours(1), 1);
        check.angles("at home it stays", x, 0, 18, 36, 54);
        due("push(0, 0, 2)", x.push(0, ON, 2), 2);
        due("push(1, 0, 2)", x.push(1, ON, 2), 2);
        due("push(2, 0, 2)", x.push(2, ON, 2), 2);
        due("hours(1)", x.hours(1), 2);
        check.angles("one step, the sprung one alone", x, 1, 20, 38, 54);
        due("hours(1)", x.hours(1), 3);
        due("at home", x.leaf(0, 1), 0);
        due("hours(99)", x.hours(99), 102);
        check.angles("no further", x, 0, 20, 38, 54);
        OneHinge y = check.told("house 3;sprung 0");
        due("all the way", y.push(0, ON, 30), 30);
        due("29 hours", y.hours(29), 29);
        due("one step is left", y.leaf(0, 1), 1);
    }

    private void homeByTheShorterWay() {
        check.sentence("towards its HOME by the shorter way (of like ones ON)");
        int[][] dues = {{1, 0}, {35, 34}, {36, 37}, {37, 38}, {68, 69}};
        for (int[] one : dues) {
            OneHinge x = check.told("house 3;leaf 2 71;leaf 1 70;sprung 0");
            due("push on by " + one[0], x.push(0, ON, one[0]), one[0]);
            due("an hour", x.hours(1), 1);
            due("from " + one[0], x.leaf(0, 1), one[1]);
        }
        OneHinge y = check.told("house 3;leaf 1 1;leaf 2 2;sprung 0");
        due("push back by 36", y.push(0, BACK, 36), 36);
        due("an hour", y.hours(1), 1);
        due("from 36 on", y.leaf(0, 1), 37);
        OneHinge z = check.told("house 3;leaf 1 1;leaf 2 2;sprung 0");
        due("push back by 37", z.push(0, BACK, 37), 37);
        due("an hour", z.hours(1), 1);
        due("from 35 back", z.leaf(0, 1), 34);
        OneHinge w = check.told("fixed 1;leaf 1 1;sprung 0;leaf 0 71");
        due("push back by 16", w.push(0, BACK, 16), 16);
        due("sixteen hours", w.hours(16), 16);
        due("from 55 over none to 71", w.leaf(0, 1), 71);
    }

    private void hoursGoByNumbers() {
        check.sentence("each SPRUNG LEAF, by numbers");
        OneHinge x = check.told("sprung 0;sprung 1");
        due("leaf 1 back, carrying leaf 0", x.push(1, BACK, 20), 20);
        check.angles("carried", x, 69, 70, 36, 54);
        due("an hour", x.hours(1), 1);
        check.angles("leaf 0 carries leaf 1, then leaf 1 steps itself", x, 70, 0, 36, 54);
        OneHinge y = check.told("sprung 0;sprung 1");
        due("leaf 0 on, carrying leaf 1", y.push(0, ON, 20), 20);
        check.angles("carried", y, 20, 21, 36, 54);
        due("an hour", y.hours(1), 1);
        check.angles("leaf 0 first: it need not be carried", y, 19, 20, 36, 54);
        due("two hours", y.hours(2), 3);
        check.angles("leaf 1 is at home", y, 17, 18, 36, 54);
    }

    private void hoursAreAStepThatCarries() {
        check.sentence("takes a STEP towards its HOME: a STEP as told in 2");
        OneHinge x = check.told("sprung 0;leaf 1 1;sprung 3;leaf 3 71");
        due("plain leaf 1 pushes the sprung one from home", x.push(1, BACK, 2), 2);
        check.angles("carried", x, 70, 71, 36, 69);
        due("an hour", x.hours(1), 1);
        check.angles("the sprung one carries the plain one", x, 71, 0, 36, 70);
        OneHinge y = check.told("sprung 0;heavy 1;leaf 1 1;leaf 0 71");
        due("the heavy one pushes it from home", y.push(1, BACK, 6), 6);
        check.angles("carried", y, 66, 67, 36, 54);
        due("hours(9)", y.hours(9), 9);
        check.angles("it carries no heavy one", y, 66, 67, 36, 54);
        OneHinge z = check.told(TIGHT + ";sprung 3");
        due("all touch: pushed by 5", z.push(0, ON, 5), 5);
        due("hours(5)", z.hours(5), 5);
        check.angles("all come home with the sprung one", z, 0, 9, 18, 27, 36, 45, 54, 63);
    }

    private void hoursUpTo9999() {
        check.sentence("n HOURS (1 .. 99) go: how many in all. OUTSIDE; FULL: above 9999 in all");
        OneHinge x = check.told("sprung 0");
        due("push(0, 0, 5)", x.push(0, ON, 5), 5);
        for (int n : new int[] {0, -1, 100, 9999, Integer.MIN_VALUE, Integer.MAX_VALUE}) {
            due("hours(" + n + ")", x.hours(n), OUTSIDE);
        }
        due("none went", x.count(3), 0);
        due("no leaf came home by these", x.leaf(0, 1), 5);
        due("hours(1)", x.hours(1), 1);
        for (int i = 1; i <= 100; i++) {
            due("hours(99)", x.hours(99), 99 * i + 1);
        }
        due("push(0, 0, 7)", x.push(0, ON, 7), 7);
        due("99 to 10000", x.hours(99), FULL);
        due("none of them went", x.count(3), 9901);
        due("no leaf came home by a full call", x.leaf(0, 1), 7);
        due("98 to 9999", x.hours(98), 9999);
        due("home", x.leaf(0, 1), 0);
        due("push(0, 0, 7)", x.push(0, ON, 7), 7);
        due("one more", x.hours(1), FULL);
        due("99 more", x.hours(99), FULL);
        due("a wrong number", x.hours(0), OUTSIDE);
        due("still 9999", x.count(3), 9999);
        due("and no step", x.leaf(0, 1), 7);
        due("keep(0)", x.keep(0), 9999);
        check.tell(x, "plain 1");
        due("hours go again", x.hours(99), 99);
    }

    // ---- kinds

    private void kindsAreOverOneAnother() {
        check.sentence("LEAF (0); PLAIN (1) under it; SPRUNG (2) is PLAIN; HEAVY (3) is a LEAF; FIXED (4) is HEAVY");
        OneHinge x = check.told("sprung 1;heavy 2;fixed 3");
        int[][] taken = {{3, 3, NOT, NOT, NOT}, {3, 3, 3, NOT, NOT}, {3, NOT, NOT, 3, NOT}, {0, NOT, NOT, 0, 0}};
        for (int leaf = 0; leaf < 4; leaf++) {
            for (int kind = 0; kind <= 4; kind++) {
                due("as(" + leaf + ", " + kind + ")", x.as(leaf, kind), taken[leaf][kind]);
            }
            for (int kind : new int[] {-1, 5, 32, Integer.MIN_VALUE, Integer.MAX_VALUE}) {
                due("as(" + leaf + ", " + kind + ")", x.as(leaf, kind), OUTSIDE);
            }
        }
        for (int leaf : new int[] {-1, 4, 8, Integer.MIN_VALUE, Integer.MAX_VALUE}) {
            due("as(" + leaf + ", 0)", x.as(leaf, 0), UNKNOWN);
            due("as(" + leaf + ", 5)", x.as(leaf, 5), UNKNOWN);
        }
    }

    private void asTellsBothSides() {
        check.sentence("1 it can take a STEP ON, 2 back, together");
        OneHinge x = check.told("fixed 3;leaf 3 37;heavy 1;leaf 1 1");
        due("neither, fixed", x.as(3, 0), 0);
        due("back alone, at a fixed one", x.as(2, 1), 2);
        due("back alone, at a heavy one", x.as(0, 0), 2);
        due("both, heavy", x.as(1, 3), 3);
        OneHinge y = check.told("fixed 0;leaf 1 1;fixed 2;leaf 2 2");
        due("neither, plain", y.as(1, 1), 0);
        due("both, plain", y.as(3, 1), 3);
        due("nothing moved", y.leaf(3, 1), 54);
        OneHinge z = check.told("fixed 0;leaf 1 1");
        due("on alone, at a fixed one", z.as(1, 1), 1);
    }

    private void leafAndRoomAreAsked() {
        check.sentence("Of a LEAF: KIND (what 0), ANGLE (1), HOME (2). Of a ROOM: what 0 .. 3. UNKNOWN; OUTSIDE");
        OneHinge x = check.told("house 8;fixed 7;leaf 7 70;put 7 1;door 71;person 7;person 7");
        int[] leaf = {3, 70, 70};
        int[] room = {2, 1, 1, 3};
        for (int what = 0; what < 3; what++) {
            due("leaf(7, " + what + ")", x.leaf(7, what), leaf[what]);
        }
        for (int what = 0; what < 4; what++) {
            due("room(7, " + what + ")", x.room(7, what), room[what]);
        }
        for (int what : new int[] {-1, 3, 4, 5, Integer.MIN_VALUE, Integer.MAX_VALUE}) {
            due("leaf(7, " + what + ")", x.leaf(7, what), OUTSIDE);
            due("leaf(8, " + what + ")", x.leaf(8, what), UNKNOWN);
            due("room(7, " + what + ")", x.room(7, what), what == 3 ? 3 : OUTSIDE);
            due("room(8, " + what + ")", x.room(8, what), UNKNOWN);
        }
        for (int none : new int[] {-1, 8, 9, 72, Integer.MIN_VALUE, Integer.MAX_VALUE}) {
            due("leaf(" + none + ", 0)", x.leaf(none, 0), UNKNOWN);
            due("room(" + none + ", 0)", x.room(none, 0), UNKNOWN);
        }
        due("leave(0)", x.leave(0), 7);
        due("PEOPLE there that are not OUT", x.room(7, 3), 2);
    }

    // ---- people

    private void personsAreAsked() {
        check.sentence("Where one of PEOPLE is (a ROOM; NONE: OUT). UNKNOWN");
        OneHinge x = check.told("door 55;person 3;person 0");
        due("person(0)", x.person(0), 3);
        due("person(1)", x.person(1), 0);
        for (int none : new int[] {-1, 2, 5, 6, Integer.MIN_VALUE, Integer.MAX_VALUE}) {
            due("person(" + none + ")", x.person(none), UNKNOWN);
            due("leave(" + none + ")", x.leave(none), UNKNOWN);
            due("enter(" + none + ", 3)", x.enter(none, 3), UNKNOWN);
        }
        due("leave(0)", x.leave(0), 3);
        due("out", x.person(0), NONE);
        OneHinge y = check.told("person 3");
        due("push(3, 0, 30)", y.push(3, ON, 30), 30);
        due("he goes with his room", y.person(0), 3);
    }

    private void leaveByAnOpenRoom() {
        check.sentence("One of PEOPLE goes OUT: the ROOM where he was. NOT: he is OUT; his ROOM is not OPEN");
        OneHinge x = check.told("door 18;person 0;person 1;person 1");
        due("a door at the leaf", x.leave(0), NOT);
        due("nor by the other side", x.leave(1), NOT);
        due("he stays", x.person(0), 0);
        due("push(1, 1, 1)", x.push(1, BACK, 1), 1);
        due("room 0 is not open", x.leave(0), NOT);
        due("room 1 is", x.leave(2), 1);
        due("he is out", x.leave(2), NOT);
        due("out by bits", x.count(5), 4);
        due("there by bits", x.room(1, 3), 2);
        due("the other one too", x.leave(1), 1);
        due("out by bits", x.count(5), 6);
        due("nobody is there", x.room(1, 3), 0);
        due("those that are out are counted", x.count(2), 3);
    }

    private void enterAnOpenRoom() {
        check.sentence("One of PEOPLE who is OUT goes into a ROOM: how many are in it then. NOT: he is not OUT; "
                + "it is not OPEN");
        OneHinge x = check.told("door 1;door 55;person 0;person 0;person 0;person 0;person 3");
        due("he is not out, his own room", x.enter(0, 0), NOT);
        due("he is not out, another room", x.enter(0, 3), NOT);
        for (int person = 0; person < 4; person++) {
            due("leave(" + person + ")", x.leave(person), 0);
        }
        due("it is not open", x.enter(0, 1), NOT);
        due("no such room", x.enter(0, 4), UNKNOWN);
        due("no such room", x.enter(0, -1), UNKNOWN);
        due("no such room, and he is not out", x.enter(4, 4), UNKNOWN);
        due("he is still out", x.person(0), NONE);
        for (int person = 3; person >= 0; person--) {
            due("enter(" + person + ", 3)", x.enter(person, 3), 5 - person);
        }
        due("all five", x.room(3, 3), 31);
        due("nobody is out", x.count(5), 0);
        due("leave(4)", x.leave(4), 3);
        due("into an empty one", x.enter(4, 0), 1);
        OneHinge y = check.told("door 18;door 1;person 0");
        due("leave(0)", y.leave(0), 0);
        due("a door at the leaf", y.enter(0, 1), NOT);
    }

    // ---- what is kept

    private void keepTwice() {
        check.sentence("LEAVES, PEOPLE, HOURS are kept (k 0, 1): HOURS. UNKNOWN: no such k");
        OneHinge x = new OneHinge();
        for (int k : new int[] {-1, 2, 3, Integer.MIN_VALUE, Integer.MAX_VALUE}) {
            due("keep(" + k + ")", x.keep(k), UNKNOWN);
            due("back(" + k + ")", x.back(k), UNKNOWN);
        }
        due("nothing is kept at 0", x.back(0), NOT);
        due("nothing is kept at 1", x.back(1), NOT);
        due("keep(1) at hour 0", x.keep(1), 0);
        due("at 0 there is nothing still", x.back(0), NOT);
        due("hours(3)", x.hours(3), 3);
        due("keep(0)", x.keep(0), 3);
        due("hours(4)", x.hours(4), 7);
        due("keep(1) again", x.keep(1), 7);
        due("back(0)", x.back(0), 3);
        due("back(1): the later one", x.back(1), 7);
    }

    private void backAsKept() {
        check.sentence("They are as they were kept: HOURS. NOT: nothing was kept since the last text");
        OneHinge x = check.told("door 1;sprung 1;person 0;person 0");
        due("push(1, 0, 4)", x.push(1, ON, 4), 4);
        due("leave(1)", x.leave(1), 0);
        due("hours(1)", x.hours(1), 1);
        due("keep(0)", x.keep(0), 1);
        Check.write(x, "plain 0");
        due("seen(1, 30)", x.seen(1, 30), 1);
        due("leave(0)", x.leave(0), 0);
        due("enter(1, 0)", x.enter(1, 0), 1);
        due("push(0, 1, 60)", x.push(0, BACK, 60), 60);
        due("hours(20)", x.hours(20), 21);
        due("back(0)", x.back(0), 1);
        check.angles("leaves", x, 0, 21, 36, 54);
        due("person(0)", x.person(0), 0);
        due("person(1)", x.person(1), NONE);
        due("hours", x.count(3), 1);
        due("homes stay", x.leaf(1, 2), 18);
        due("the text is not kept", x.count(7), 7);
        due("nor what was seen", x.count(6), 1);
        due("push(2, 0, 1)", x.push(2, ON, 1), 1);
        due("back(0) again", x.back(0), 1);
        check.angles("what is kept stays as it was", x, 0, 21, 36, 54);
        due("a text with a fault ahead", x.write('x', 1), 8);
        due("keeps what is kept", x.house(), NOT);
        due("back(0)", x.back(0), 1);
        x.erase();
        check.tell(x, "plain 0");
        due("since the last text", x.back(0), NOT);
        due("keep(0)", x.keep(0), 0);
        due("back(0)", x.back(0), 0);
        due("at 1 nothing was kept", x.back(1), NOT);
    }
}
