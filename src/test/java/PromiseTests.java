/** At least one test for each promise: ordinary inputs, the edges that the document names, wrong inputs. */
public final class PromiseTests {
    private static final int NONE = OneHinge.NONE, UNKNOWN = OneHinge.UNKNOWN, OUTSIDE = OneHinge.OUTSIDE;
    private static final int NOT = OneHinge.NOT, FULL = OneHinge.FULL;
    private static final int ON = 0, BACK = 1;

    private final Check check = new Check();

    public static void main(String[] args) {
        PromiseTests tests = new PromiseTests();
        tests.promise1NewObject();
        tests.promise2Write();
        tests.promise3Erase();
        tests.promise4FaultOfTokens();
        tests.promise4FaultOfBounds();
        tests.promise4FaultOfWhatWasTold();
        tests.promise5House();
        tests.promise6Leaf();
        tests.promise7Room();
        tests.promise8As();
        tests.promise9Person();
        tests.promise10Push();
        tests.promise10PushCarries();
        tests.promise10PushAllTouching();
        tests.promise11Hours();
        tests.promise12Leave();
        tests.promise13Enter();
        tests.promise14And15KeepAndBack();
        tests.promise16Turn();
        tests.promise17Best();
        tests.promise18Widest();
        tests.promise19Further();
        tests.promise20Share();
        tests.promise21Errands();
        tests.promise22Slam();
        tests.promise23Fire();
        tests.promise24And25SeenAndForget();
        tests.promise26Least();
        tests.promise27Count();
        tests.eightLeaves();
        tests.check.end();
    }

    private void due(String call, long got, long want) {
        check.due(call, got, want);
    }

    private void promise1NewObject() {
        OneHinge x = new OneHinge();
        check.angles("new", x, 0, 18, 36, 54);
        for (int i = 0; i < 4; i++) {
            due("new: leaf(" + i + ", 0)", x.leaf(i, 0), 0);
            due("new: leaf(" + i + ", 2)", x.leaf(i, 2), 18 * i);
            due("new: room(" + i + ", 0)", x.room(i, 0), 18);
            due("new: room(" + i + ", 1)", x.room(i, 1), 0);
        }
        for (int what = 1; what <= 7; what++) {
            due("new: count(" + what + ")", x.count(what), 0);
        }
        due("new: back(0)", x.back(0), NOT);
        due("new: back(1)", x.back(1), NOT);
    }

    private void promise2Write() {
        OneHinge x = new OneHinge();
        due("write(.., 0)", x.write(0, 0), OUTSIDE);
        due("write(.., 9)", x.write(0, 9), OUTSIDE);
        due("write(.., least)", x.write(0, Integer.MIN_VALUE), OUTSIDE);
        due("write of one", x.write('e', 1), 1);
        due("write: only n bytes count", x.write(0x7a7a7a7a7974706dL, 4), 5);
        due("fault() of empty", x.fault(), NONE);
        due("house() of empty", x.house(), 1);
        for (int i = 1; i <= 24; i++) {
            due("write of eight more", x.write(0x2020202020202020L, 8), 8 * i);
        }
        due("write to 199", x.write(0x20202020202020L, 7), 199);
        due("write over 200", x.write(0x2020, 2), FULL);
        due("write(.., 9) when nearly full", x.write(0, 9), OUTSIDE);
        due("a full write changes nothing", x.count(7), 199);
        due("write to 200", x.write(' ', 1), 200);
        due("write to 201", x.write(' ', 1), FULL);
        due("fault() of 200 blanks", x.fault(), 200);
        OneHinge y = new OneHinge();
        due("the eighth byte, of sign 128 and more", y.write(0xff20202020202020L, 8), 8);
        due("its fault", y.fault(), 7);
    }

    private void promise3Erase() {
        OneHinge x = new OneHinge();
        due("erase() of nothing", x.erase(), 0);
        Check.write(x, "house 5;leaf");
        due("erase()", x.erase(), 12);
        due("erase() again", x.erase(), 0);
        due("erase() does no line", x.count(0), 4);
        Check.write(x, "house 3");
        due("what is written behind erase()", x.house(), 1);
        due("count(0)", x.count(0), 3);
    }

    private void promise4FaultOfTokens() {
        check.faultAt("", 0);
        check.faultAt("   ", 3);
        check.faultAt(";", 0);
        check.faultAt("empty;", 6);
        check.faultAt("empty ;  ", 9);
        check.faultAt("empty;;empty", 6);
        check.faultAt("empty", NONE);
        check.faultAt("  empty  ;  empty  ", NONE);
        check.faultAt("Empty", 0);
        check.faultAt("emptya", 0);
        check.faultAt("emptyz", 0);
        check.faultAt("nouse 3", 0);
        check.faultAt("empt", 0);
        check.faultAt("empty empty", 6);
        check.faultAt("empty 1", 6);
        check.faultAt("empty\t", 5);
        check.faultAt("empty\u00e9", 5);
        check.faultAt("house", 5);
        check.faultAt("house ", 6);
        check.faultAt("house;", 5);
        check.faultAt("house x", 6);
        check.faultAt("house -3", 6);
        check.faultAt("house3", NONE);
        check.faultAt("house 03", NONE);
        check.faultAt("house 003", 6);
        check.faultAt("house 3 3", 8);
        check.faultAt("house 33", 6);
        check.faultAt("house 3.", 7);
        check.faultAt("house3x", 6);
        check.faultAt("hou se 3", 0);
        check.faultAt("leaf 1", 6);
        check.faultAt("leaf 1;", 6);
        check.faultAt("leaf0020", 4);
        check.faultAt("leaf00 05", NONE);
        check.faultAt("leaf 1 020", 7);
        check.faultAt("7", 0);
        check.faultAt("plain 0;sprung 1;heavy 2;fixed 3;put 0 2;door 7;person 3;house 4", NONE);
        String eleven = "empty;".repeat(11);
        check.faultAt(eleven + "empty", NONE);
        check.faultAt(eleven + "empty;", 71);
        check.faultAt(eleven + "empty;empty", 71);
        check.faultAt(eleven + "empty x", 72);
    }

    private void promise4FaultOfBounds() {
        check.faultAt("house 2", 6);
        check.faultAt("house 8", NONE);
        check.faultAt("house 9", 6);
        check.faultAt("leaf 4 1", 5);
        check.faultAt("leaf 3 53", NONE);
        check.faultAt("leaf 3 71", NONE);
        check.faultAt("leaf 3 72", 7);
        check.faultAt("leaf 3 0", 7);
        check.faultAt("leaf 0 5;leaf 3 72", 16);
        check.faultAt("leaf 0 5;leaf 3 0", NONE);
        check.faultAt("leaf 3 36", 7);
        check.faultAt("leaf 3 37", NONE);
        check.faultAt("leaf 0 17", NONE);
        check.faultAt("leaf 0 18", 7);
        check.faultAt("leaf 0 55", NONE);
        check.faultAt("leaf 0 54", 7);
        check.faultAt("leaf 0 30", 7);
        for (String word : new String[] {"plain", "sprung", "heavy", "fixed", "person"}) {
            check.faultAt(word + " 3", NONE);
            check.faultAt(word + " 4", word.length() + 1);
            check.faultAt(word, word.length());
        }
        check.faultAt("put 4 0", 4);
        check.faultAt("put 3", 5);
        check.faultAt("put 3 17", NONE);
        check.faultAt("put 3 18", 6);
        check.faultAt("house 3;put 0 20", NONE);
        check.faultAt("house 3;put 0 21", 14);
        check.faultAt("door 0;door 71", NONE);
        check.faultAt("door 72", 5);
        check.faultAt("door 5;door 05", 12);
        check.faultAt("door 1;door 2;door 3;door", 25);
        check.faultAt("door 1;door 2;door 3;door 4", 26);
    }

    private void promise4FaultOfWhatWasTold() {
        check.faultAt("house 8;fixed 7;house 3;fixed 3", 30);
        check.faultAt("put 0 17;leaf 1 17", 16);
        check.faultAt("put 0 17;leaf 1 19", NONE);
        check.faultAt("put 0 17;leaf 0 1", 16);
        check.faultAt("leaf 1 10;put 0 10", 16);
        check.faultAt("leaf 1 10;put 0 9", NONE);
        String five = "person 0;person 1;person 2;person 3;person 0";
        check.faultAt(five + ";person 0", 45);
        check.faultAt(five + ";person", 45);
        check.faultAt(five + ";person 9", 45);
        check.faultAt(five + ";empty;person 0", NONE);
        OneHinge x = check.told(five + ";door 1;door 2;door 3");
        check.faultAt(x, "person 0", 0);
        check.faultAt(x, "door 4", 5);
        check.faultAt(x, "house 3;person 0;door 4", NONE);
        // A push is not told: a text stands on the leaves where they are at home.
        due("push(0, 0, 17)", x.push(0, ON, 17), 17);
        check.faultAt(x, "put 0 17", NONE);
        check.faultAt(x, "leaf 1 1", NONE);
        due("fault() moves nothing", x.leaf(0, 1), 17);
        due("fault() keeps PEOPLE", x.count(2), 5);
    }

    private void promise5House() {
        OneHinge x = new OneHinge();
        due("house() of no text", x.house(), NOT);
        check.tell(x, "house 7;leaf 1 9;heavy 2;put 3 4;door 13;person 1;person 6");
        check.angles("house 7", x, 0, 9, 20, 30, 41, 51, 61);
        due("its text is empty then", x.count(7), 0);
        due("room(1, 3)", x.room(1, 3), 1);
        due("push(0, 0, 5)", x.push(0, ON, 5), 5);
        due("leave(0)", x.leave(0), 1);
        due("hours(7)", x.hours(7), 7);
        due("seen(0, 1)", x.seen(0, 1), 1);
        due("keep(0)", x.keep(0), 7);
        Check.write(x, "house 3;leaf 3 1");
        due("a fault", x.house(), NOT);
        due("a fault changes nothing", x.leaf(0, 1), 5);
        due("a fault keeps hours", x.count(3), 7);
        due("a fault keeps what is kept", x.back(0), 7);
        x.erase();
        check.tell(x, "leaf 6 62");
        check.angles("as told, pushes undone", x, 0, 9, 20, 30, 41, 51, 62);
        due("what was told stays", x.leaf(2, 0), 2);
        due("its furniture", x.room(3, 1), 4);
        due("nobody is out", x.count(5), 0);
        due("person(0)", x.person(0), 1);
        due("it is hour 0", x.count(3), 0);
        due("nothing is seen", x.count(6), 0);
        due("nothing is kept", x.back(0), NOT);
        check.tell(x, "leaf 0 3;fixed 0;put 0 2");
        due("leaf(0, 0)", x.leaf(0, 0), 3);
        check.tell(x, "house 7");
        due("house N: its first leaf", x.leaf(0, 1), 0);
        due("its first kind", x.leaf(0, 0), 0);
        due("its first furniture", x.room(0, 1), 0);
        due("house N: as at first", x.leaf(6, 1), 61);
        due("its kinds", x.leaf(2, 0), 0);
        due("its furniture", x.room(3, 1), 0);
        due("its doors", x.count(1), 0);
        due("its people", x.count(2), 0);
    }

    private void promise6Leaf() {
        OneHinge x = check.told("house 8;sprung 1;heavy 2;fixed 3;leaf 7 70");
        for (int i = 0; i < 4; i++) {
            due("kind", x.leaf(i, 0), i);
        }
        due("plain again", x.leaf(4, 0), 0);
        due("angle", x.leaf(7, 1), 70);
        due("push(7, 1, 2)", x.push(7, BACK, 2), 2);
        due("angle behind a push", x.leaf(7, 1), 68);
        due("home behind a push", x.leaf(7, 2), 70);
        due("leaf(8, 9)", x.leaf(8, 9), UNKNOWN);
        due("leaf(-1, 0)", x.leaf(-1, 0), UNKNOWN);
        due("leaf(7, 3)", x.leaf(7, 3), OUTSIDE);
        due("leaf(7, -1)", x.leaf(7, -1), OUTSIDE);
        check.tell(x, "plain 3");
        due("plain is told too", x.leaf(3, 0), 0);
    }

    private void promise7Room() {
        OneHinge x = check.told("leaf 0 70;put 3 5;door 70;door 0;door 36;person 3;person 0;person 3");
        due("width over 71", x.room(0, 0), 20);
        due("width to the last", x.room(3, 0), 16);
        due("furniture", x.room(3, 1), 5);
        due("a door between", x.room(0, 2), 1);
        due("a door at the second leaf", x.room(1, 2), 0);
        due("a door at the first leaf", x.room(2, 2), 0);
        due("a door at the last room's second leaf", x.room(3, 2), 0);
        due("people", x.room(3, 3), 5);
        due("one", x.room(0, 3), 2);
        due("leave(1)", x.leave(1), 0);
        due("not those that are out", x.room(0, 3), 0);
        due("room(4, 4)", x.room(4, 4), UNKNOWN);
        due("room(-1, 0)", x.room(-1, 0), UNKNOWN);
        due("room(0, 4)", x.room(0, 4), OUTSIDE);
        due("room(0, -1)", x.room(0, -1), OUTSIDE);
    }

    private void promise8As() {
        OneHinge x = check.told("house 5;sprung 1;heavy 2;fixed 3");
        int[][] want = {{3, 3, NOT, NOT, NOT}, {3, 3, 3, NOT, NOT}, {3, NOT, NOT, 3, NOT}, {0, NOT, NOT, 0, 0}};
        for (int leaf = 0; leaf < 4; leaf++) {
            for (int kind = 0; kind < 5; kind++) {
                due("as(" + leaf + ", " + kind + ")", x.as(leaf, kind), want[leaf][kind]);
            }
        }
        due("as(5, 5)", x.as(5, 5), UNKNOWN);
        due("as(-1, 0)", x.as(-1, 0), UNKNOWN);
        due("as(0, 5)", x.as(0, 5), OUTSIDE);
        due("as(0, -1)", x.as(0, -1), OUTSIDE);
        due("push(2, 0, 72)", x.push(2, ON, 72), 14);
        due("only back", x.as(2, 0), 2);
        due("push(4, 1, 72)", x.push(4, BACK, 72), 13);
        due("only on", x.as(4, 1), 1);
        OneHinge y = check.told("heavy 0;heavy 2;fixed 3;leaf 1 1;leaf 2 2");
        due("a heavy one is not carried", y.as(1, 0), 0);
        due("a plain one could not be carried", y.as(0, 0), 2);
        due("the heavy one is pushed on", y.as(2, 3), 1);
    }

    private void promise9Person() {
        OneHinge x = check.told("door 1;person 0;person 3");
        due("person(0)", x.person(0), 0);
        due("person(1)", x.person(1), 3);
        due("person(2)", x.person(2), UNKNOWN);
        due("person(-1)", x.person(-1), UNKNOWN);
        due("leave(0)", x.leave(0), 0);
        due("person(0) out", x.person(0), NONE);
        check.tell(x, "empty;person 2");
        due("person(0) told anew", x.person(0), 2);
        due("person(1) no more", x.person(1), UNKNOWN);
    }

    private void promise10Push() {
        OneHinge x = new OneHinge();
        due("push(0, 1, 17)", x.push(0, BACK, 17), 17);
        check.angles("back over 0", x, 55, 18, 36, 54);
        due("push(0, 0, 20)", x.push(0, ON, 20), 20);
        check.angles("on over 71", x, 3, 18, 36, 54);
        due("push(4, 2, 0)", x.push(4, 2, 0), UNKNOWN);
        due("push(-1, 0, 1)", x.push(-1, ON, 1), UNKNOWN);
        due("push(0, 2, 1)", x.push(0, 2, 1), OUTSIDE);
        due("push(0, -1, 1)", x.push(0, -1, 1), OUTSIDE);
        due("push(0, 0, 0)", x.push(0, ON, 0), OUTSIDE);
        due("push(0, 0, 73)", x.push(0, ON, 73), OUTSIDE);
        check.angles("nothing is pushed by these", x, 3, 18, 36, 54);
        due("homes stay", x.leaf(0, 2), 0);
    }

    private void promise10PushCarries() {
        OneHinge x = check.told("put 0 4;sprung 1;heavy 2;fixed 3;leaf 1 15");
        due("push(0, 0, 72)", x.push(0, ON, 72), 30);
        check.angles("plain carries sprung till heavy", x, 30, 35, 36, 54);
        due("no further", x.push(0, ON, 1), 0);
        due("push(2, 0, 72)", x.push(2, ON, 72), 17);
        check.angles("heavy till fixed", x, 30, 35, 53, 54);
        due("push(2, 1, 72)", x.push(2, BACK, 72), 64);
        check.angles("heavy carries back till fixed", x, 55, 60, 61, 54);
        due("push(3, 0, 72)", x.push(3, ON, 72), 0);
        due("push(3, 1, 72)", x.push(3, BACK, 72), 0);
    }

    private void promise10PushAllTouching() {
        String tight = "house 4;leaf 1 21;leaf 2 42;leaf 3 63;put 0 20;put 1 20;put 2 20;put 3 8";
        OneHinge x = check.told(tight);
        due("all touch: push(2, 0, 10)", x.push(2, ON, 10), 10);
        check.angles("all move", x, 10, 31, 52, 1);
        due("push(0, 1, 11)", x.push(0, BACK, 11), 11);
        check.angles("all move back", x, 71, 20, 41, 62);
        OneHinge y = check.told(tight + ";heavy 1");
        due("the heavy one is pushed", y.push(1, ON, 3), 3);
        check.angles("all move", y, 3, 24, 45, 66);
        due("a heavy one is not carried", y.push(0, ON, 3), 0);
        due("as(1, 3)", y.as(1, 3), 3);
        due("as(2, 1)", y.as(2, 1), 0);
        OneHinge z = check.told(tight + ";fixed 1");
        due("a fixed one does not move", z.push(1, ON, 3), 0);
        due("nor is it carried", z.push(3, BACK, 3), 0);
    }

    private void promise11Hours() {
        OneHinge x = check.told("sprung 0;sprung 2");
        due("hours(0)", x.hours(0), OUTSIDE);
        due("hours(100)", x.hours(100), OUTSIDE);
        due("push(0, 0, 5)", x.push(0, ON, 5), 5);
        due("push(2, 1, 20)", x.push(2, BACK, 20), 20);
        check.angles("carried", x, 5, 15, 16, 54);
        due("hours(2)", x.hours(2), 2);
        check.angles("two hours on", x, 3, 15, 18, 54);
        due("hours(99)", x.hours(99), 101);
        check.angles("home, but for the plain one", x, 0, 15, 36, 54);
        OneHinge y = check.told("house 3;sprung 1;leaf 1 1;leaf 2 2");
        due("push(1, 0, 36)", y.push(1, ON, 36), 36);
        due("hours(1)", y.hours(1), 1);
        check.angles("of like ways on", y, 0, 38, 39);
        OneHinge z = check.told("sprung 0;fixed 1;fixed 3;leaf 1 1");
        due("push(0, 1, 4)", z.push(0, BACK, 4), 4);
        check.tell(z, "leaf 0 68");
        due("hours(1)", z.hours(1), 1);
        due("at home it stays", z.leaf(0, 1), 68);
        OneHinge w = new OneHinge();
        for (int i = 1; i <= 101; i++) {
            due("hours(99)", w.hours(99), 99 * i);
        }
        due("to 10000", w.hours(1), FULL);
        due("none went", w.count(3), 9999);
        due("to 9999", w.hours(100), OUTSIDE);
        promise11HoursCarry();
    }

    private void promise11HoursCarry() {
        OneHinge x = check.told("sprung 3;heavy 0");
        due("push(3, 1, 30)", x.push(3, BACK, 30), 30);
        check.angles("carried", x, 0, 18, 23, 24);
        due("push(0, 1, 40)", x.push(0, BACK, 40), 40);
        check.angles("the heavy one came round", x, 32, 18, 23, 24);
        due("hours(99)", x.hours(99), 99);
        check.angles("the sprung one stays behind the heavy one", x, 32, 18, 23, 31);
        OneHinge y = check.told("sprung 0;leaf 1 1");
        due("push(1, 1, 5)", y.push(1, BACK, 5), 5);
        check.angles("carried from home", y, 67, 68, 36, 54);
        due("hours(4)", y.hours(4), 4);
        check.angles("it carries the plain one home", y, 71, 0, 36, 54);
    }

    private void promise12Leave() {
        OneHinge x = check.told("door 1;person 0;person 1;person 0");
        due("leave(3)", x.leave(3), UNKNOWN);
        due("leave(-1)", x.leave(-1), UNKNOWN);
        due("his room is not open", x.leave(1), NOT);
        due("leave(2)", x.leave(2), 0);
        due("he is out", x.leave(2), NOT);
        due("count(5)", x.count(5), 4);
        due("push(0, 0, 1)", x.push(0, ON, 1), 1);
        due("the door is at the leaf now", x.leave(0), NOT);
        due("person(0)", x.person(0), 0);
    }

    private void promise13Enter() {
        OneHinge x = check.told("door 1;door 20;person 0;person 1;person 0");
        due("enter(3, 0)", x.enter(3, 0), UNKNOWN);
        due("enter(0, 4)", x.enter(0, 4), UNKNOWN);
        due("enter(-1, 0)", x.enter(-1, 0), UNKNOWN);
        due("enter(0, -1)", x.enter(0, -1), UNKNOWN);
        due("he is not out", x.enter(0, 1), NOT);
        due("leave(0)", x.leave(0), 0);
        due("it is not open", x.enter(0, 2), NOT);
        due("enter(0, 1)", x.enter(0, 1), 2);
        due("person(0)", x.person(0), 1);
        due("leave(0)", x.leave(0), 1);
        due("enter(0, 0)", x.enter(0, 0), 2);
        due("count(5)", x.count(5), 0);
    }

    private void promise14And15KeepAndBack() {
        OneHinge x = check.told("door 1;person 0");
        due("keep(2)", x.keep(2), UNKNOWN);
        due("keep(-1)", x.keep(-1), UNKNOWN);
        due("back(2)", x.back(2), UNKNOWN);
        due("back(-1)", x.back(-1), UNKNOWN);
        due("keep(1)", x.keep(1), 0);
        due("the other is not kept", x.back(0), NOT);
        due("leave(0)", x.leave(0), 0);
        due("push(1, 0, 3)", x.push(1, ON, 3), 3);
        due("hours(5)", x.hours(5), 5);
        due("seen(1, 1)", x.seen(1, 1), 1);
        due("keep(0)", x.keep(0), 5);
        due("back(1)", x.back(1), 0);
        check.angles("as kept", x, 0, 18, 36, 54);
        due("person(0)", x.person(0), 0);
        due("count(3)", x.count(3), 0);
        due("what is seen stays", x.count(6), 1);
        due("push(2, 0, 3)", x.push(2, ON, 3), 3);
        due("what is kept stays", x.back(1), 0);
        check.angles("as kept", x, 0, 18, 36, 54);
        due("back(0)", x.back(0), 5);
        check.angles("as kept later", x, 0, 21, 36, 54);
        due("person(0) is out", x.person(0), NONE);
        due("hours(1)", x.hours(1), 6);
        due("keep(0) anew", x.keep(0), 6);
        due("back(0)", x.back(0), 6);
        check.tell(x, "plain 0");
        due("not since the last text", x.back(0), NOT);
        due("nor the other", x.back(1), NOT);
    }

    private void promise16Turn() {
        OneHinge x = check.told("door 17;door 60;fixed 3;leaf 3 50");
        due("it is open", x.turn(3, ON, 0), 0);
        due("by the leaf on", x.turn(0, BACK, 3), 0);
        due("turn(1, 1, 1)", x.turn(1, BACK, 1), 2);
        due("turn(2, 0, 1)", x.turn(2, ON, 1), NONE);
        due("turn(2, 1, 1)", x.turn(2, BACK, 1), NONE);
        due("turn(2, 1, 2)", x.turn(2, BACK, 2), 20);
        due("turn(3, 0, 2)", x.turn(3, ON, 2), NONE);
        due("nothing moved", x.leaf(2, 1), 36);
        due("turn(4, 2, 0)", x.turn(4, 2, 0), UNKNOWN);
        due("turn(0, 2, 4)", x.turn(0, 2, 4), UNKNOWN);
        due("turn(-1, 0, 0)", x.turn(-1, ON, 0), UNKNOWN);
        due("turn(0, 0, -1)", x.turn(0, ON, -1), UNKNOWN);
        due("turn(0, 2, 0)", x.turn(0, 2, 0), OUTSIDE);
        due("turn(0, -1, 0)", x.turn(0, -1, 0), OUTSIDE);
        // Behind the first steps all are carried round: the door is one step short of where the room was.
        due("by 71", check.told("house 3;leaf 1 1;leaf 2 3;put 1 1;door 1").turn(0, ON, 1), 71);
        due("by all 72", check.told("house 3;leaf 1 2;leaf 2 4;put 1 1;door 2").turn(0, ON, 1), 72);
        due("by 73", check.told("house 3;leaf 1 3;leaf 2 5;put 1 1;door 3").turn(0, ON, 1), NONE);
    }

    private void promise17Best() {
        OneHinge x = check.told("door 17;door 60;fixed 3;leaf 3 50");
        due("open: steps", x.best(0, 0), 0);
        due("open: leaf", x.best(0, 1), 0);
        due("open: side", x.best(0, 2), 0);
        due("best(1, 0)", x.best(1, 0), 2);
        due("best(1, 1)", x.best(1, 1), 1);
        due("best(1, 2)", x.best(1, 2), 1);
        due("best(4, 3)", x.best(4, 3), UNKNOWN);
        due("best(-1, 0)", x.best(-1, 0), UNKNOWN);
        due("best(0, 3)", x.best(0, 3), OUTSIDE);
        due("best(0, -1)", x.best(0, -1), OUTSIDE);
        OneHinge y = check.told("door 18;door 36");
        OneHinge w = check.told("door 36");
        due("by the second leaf", w.best(1, 1), 2);
        due("its side", w.best(1, 2), 0);
        due("its steps", w.best(1, 0), 1);
        due("of several leaves the least", y.best(1, 1), 1);
        due("its side", y.best(1, 2), 1);
        due("its steps", y.best(1, 0), 1);
        OneHinge z = check.told("house 3;put 0 20;put 1 20;put 2 20;fixed 0;fixed 1;fixed 2;door 0");
        for (int what = 0; what <= 2; what++) {
            due("none", z.best(0, what), NONE);
        }
    }

    private void promise18Widest() {
        OneHinge x = check.told("house 6;put 1 3;put 4 5");
        due("none is fixed", x.widest(0), 72 - 4 - 6 - 3);
        due("its own need aside", x.widest(1), 72 - 6 - 4);
        check.tell(x, "fixed 2");
        due("one is fixed", x.widest(5), 72 - 4 - 6 - 3);
        check.tell(x, "fixed 5");
        due("between 2 and 5", x.widest(3), 36 - 6 - 1);
        due("between 5 and 2", x.widest(0), 36 - 4 - 1);
        due("at the fixed one", x.widest(5), 36 - 4 - 1);
        check.tell(x, "fixed 3");
        due("between fixed ones", x.widest(2), 12);
        due("push(4, 0, 3)", x.push(4, ON, 3), 3);
        due("not where they are now", x.widest(3), 24 - 6);
        due("widest(6)", x.widest(6), UNKNOWN);
        due("widest(-1)", x.widest(-1), UNKNOWN);
    }

    private void promise19Further() {
        OneHinge x = check.told("leaf 1 17;leaf 2 35;leaf 3 54");
        due("19 and 18 leave 9: the least", x.further(0), 1);
        due("how wide", x.further(1), 9);
        due("furniture aside", check.told("leaf 1 20;put 0 19").further(0), 0);
        due("push(3, 0, 2)", x.push(3, ON, 2), 2);
        due("the widest", x.further(0), 2);
        due("how wide", x.further(1), 10);
        due("further(2)", x.further(2), OUTSIDE);
        due("further(-1)", x.further(-1), OUTSIDE);
        due("of several the least", new OneHinge().further(0), 0);
    }

    private void promise20Share() {
        OneHinge x = check.told("leaf 1 24;leaf 2 29");
        int[][] want = {{1, 3}, {5, 72}, {25, 72}, {1, 4}};
        for (int room = 0; room < 4; room++) {
            due("above", x.share(room, 0), want[room][0]);
            due("below", x.share(room, 1), want[room][1]);
        }
        due("share(4, 2)", x.share(4, 2), UNKNOWN);
        due("share(-1, 0)", x.share(-1, 0), UNKNOWN);
        due("share(0, 2)", x.share(0, 2), OUTSIDE);
        due("share(0, -1)", x.share(0, -1), OUTSIDE);
        OneHinge y = check.told("house 3;leaf 1 1;leaf 2 2");
        due("70 of 72", y.share(2, 0), 35);
        due("70 of 72", y.share(2, 1), 36);
        due("1 of 72", y.share(1, 1), 72);
    }

    private void promise21Errands() {
        OneHinge x = check.told("door 20;door 34");
        due("no errands", x.errands(0, 0, NONE), 0);
        due("no room of none", x.errands(0, 0, 0), NONE);
        due("an open one", x.errands(2, 1, NONE), 0);
        due("it is the first", x.errands(2, 1, 0), 1);
        due("no second", x.errands(2, 1, 1), NONE);
        due("no such one", x.errands(2, 1, Integer.MAX_VALUE), NONE);
        due("of like orders", x.errands(3, 1, NONE), 3);
        due("the first one's first", x.errands(3, 1, 0), 0);
        due("the first one's second", x.errands(3, 1, 1), 1);
        due("nothing moved", x.leaf(1, 1), 18);
        due("errands(16, 0, -2)", x.errands(16, 0, -2), UNKNOWN);
        due("errands(-1, 0, 0)", x.errands(-1, 0, 0), UNKNOWN);
        due("errands(1, 4, -2)", x.errands(1, 4, -2), UNKNOWN);
        due("errands(1, -1, 0)", x.errands(1, -1, 0), UNKNOWN);
        due("errands(1, 0, -2)", x.errands(1, 0, -2), OUTSIDE);
        due("errands(1, 0, least)", x.errands(1, 0, Integer.MIN_VALUE), OUTSIDE);
        OneHinge y = check.told("house 8;door 4;door 40");
        due("six are too many", y.errands(63, 0, NONE), NOT);
        due("a wrong i ahead of too many", y.errands(63, 0, -2), OUTSIDE);
        due("five are not", y.errands(31, 0, 5), NONE);
        OneHinge z = check.told("fixed 1;door 5");
        due("one of them has no way", z.errands(7, 0, NONE), NONE);
        due("nor a first", z.errands(7, 0, 0), NONE);
        promise21ErrandsInOrder();
    }

    private void errands(OneHinge x, int leaf, int steps, int... order) {
        int rooms = 0;
        for (int room : order) {
            rooms |= 1 << room;
        }
        due("errands: steps", x.errands(rooms, leaf, NONE), steps);
        for (int i = 0; i < order.length; i++) {
            due("errands: room " + i, x.errands(rooms, leaf, i), order[i]);
        }
        due("errands: no more", x.errands(rooms, leaf, order.length), NONE);
    }

    private void promise21ErrandsInOrder() {
        errands(check.told("door 17"), 1, 2, 0, 1);
        errands(check.told("door 19"), 1, 2, 1, 0);
        // Room 0 is 3 steps away on and back: only on leaves room 3 open.
        errands(check.told("put 0 17;door 20;door 70"), 0, 3, 0, 3);
        // 10 steps back open room 1, and room 0 stands open there; room 2 does so only ahead of them.
        errands(check.told("house 3;leaf 0 3;leaf 2 45;put 0 20;put 1 20;put 2 20;door 0;door 24;door 70"), 0, 10, 2, 1, 0);
        errands(check.told("house 3;leaf 1 1;leaf 2 3;put 1 1;door 1"), 0, 71, 2, 1);
        // Four rooms of two steps go together past one door, the fifth leaves it behind.
        errands(check.told("house 5;leaf 1 2;leaf 2 4;leaf 3 6;leaf 4 8;put 0 1;put 1 1;put 2 1;put 3 1;door 10"),
                0, 9, 4, 3, 2, 1, 0);
    }

    private void promise22Slam() {
        OneHinge x = check.told("put 0 4;put 3 2;fixed 2");
        due("on", x.slam(0, ON, 0), 13);
        due("on whom", x.slam(0, ON, 1), 1);
        due("back", x.slam(0, BACK, 0), 15);
        due("on whom", x.slam(0, BACK, 1), 3);
        due("the last one on", x.slam(3, ON, 1), 0);
        due("on a fixed one", x.slam(1, ON, 1), 2);
        due("slam(4, 2, 2)", x.slam(4, 2, 2), UNKNOWN);
        due("slam(-1, 0, 0)", x.slam(-1, ON, 0), UNKNOWN);
        due("slam(2, 2, 0)", x.slam(2, 2, 0), OUTSIDE);
        due("slam(0, -1, 0)", x.slam(0, -1, 0), OUTSIDE);
        due("slam(0, 0, 2)", x.slam(0, ON, 2), OUTSIDE);
        due("slam(0, 0, -1)", x.slam(0, ON, -1), OUTSIDE);
        due("slam(2, 0, 0)", x.slam(2, ON, 0), NOT);
        due("push(0, 0, 13)", x.push(0, ON, 13), 13);
        due("it touches", x.slam(0, ON, 0), 0);
        due("nothing moved", x.leaf(0, 1), 13);
    }

    private void promise23Fire() {
        OneHinge x = check.told("door 1;person 0;person 0;person 1;person 0");
        due("one room, then the other", x.fire(1, BACK), 19);
        due("the other never", x.fire(2, BACK), NONE);
        due("nothing changed", x.count(5), 0);
        due("no leaf moved", x.leaf(1, 1), 18);
        OneHinge z = check.told("door 17;door 30;person 0;person 0;person 1;person 0;person 1");
        due("both are open", z.fire(3, ON), 3);
        due("leave(1)", z.leave(1), 0);
        due("one is out ahead", z.fire(3, ON), 2);
        for (int person : new int[] {0, 2, 3, 4}) {
            z.leave(person);
        }
        due("all are out", z.fire(0, ON), 0);
        due("fire(4, 2)", z.fire(4, 2), UNKNOWN);
        due("fire(-1, 0)", z.fire(-1, ON), UNKNOWN);
        due("fire(0, 2)", z.fire(0, 2), OUTSIDE);
        due("fire(0, -1)", z.fire(0, -1), OUTSIDE);
        due("nobody is there", new OneHinge().fire(0, ON), 0);
        OneHinge w = check.told("fixed 1;door 5;person 0;person 1");
        due("a fixed leaf stands", w.fire(1, ON), NONE);
        // A room of two steps that goes round with all others has the door between its leaves once in 72 minutes.
        String round = "house 3;leaf 1 1;leaf 2 3;put 1 1;person 1;person 1;person 1;door ";
        due("one in an open room", check.told("door 1;person 0").fire(0, ON), 1);
        due("one in a room that opens", check.told("door 18;person 0").fire(1, ON), 2);
        due("in 200", check.told(round + 57).fire(0, ON), 200);
        due("in 201", check.told(round + 58).fire(0, ON), NONE);
    }

    private void promise24And25SeenAndForget() {
        OneHinge x = new OneHinge();
        due("forget() of nothing", x.forget(), 0);
        due("seen(4, 72)", x.seen(4, 72), UNKNOWN);
        due("seen(-1, 0)", x.seen(-1, 0), UNKNOWN);
        due("seen(0, 72)", x.seen(0, 72), OUTSIDE);
        due("seen(0, -1)", x.seen(0, -1), OUTSIDE);
        for (int i = 1; i <= 8; i++) {
            due("seen", x.seen(i % 4, 71), i);
        }
        due("a wrong angle ahead of full", x.seen(0, 72), OUTSIDE);
        due("a ninth", x.seen(0, 0), FULL);
        due("count(6)", x.count(6), 8);
        due("forget()", x.forget(), 8);
        due("forget() again", x.forget(), 0);
        due("seen(0, 0)", x.seen(0, 0), 1);
    }

    private void promise26Least() {
        OneHinge x = new OneHinge();
        due("nothing seen, at home", x.least(1), 0);
        due("push(1, 1, 17)", x.push(1, BACK, 17), 17);
        due("nothing seen", x.least(1), 17);
        x.seen(1, 54);
        due("36 by either way, then 19", x.least(1), 36 + 19);
        x.seen(2, 30);
        x.seen(1, 70);
        due("in their order", x.least(1), 36 + 16 + 3);
        x.seen(1, 70);
        due("twice at one angle", x.least(1), 36 + 16 + 3);
        due("another leaf's", x.least(2), 6 + 6);
        due("none of it", x.least(0), 0);
        due("least(4)", x.least(4), UNKNOWN);
        due("least(-1)", x.least(-1), UNKNOWN);
        x.forget();
        due("forgotten", x.least(1), 17);
    }

    private void promise27Count() {
        OneHinge x = check.told("house 6;door 1;door 13;person 0;person 1;person 5");
        due("leave(1)", x.leave(1), 1);
        due("hours(3)", x.hours(3), 3);
        x.seen(1, 1);
        x.seen(1, 2);
        x.write(0, 4);
        int[] want = {6, 2, 3, 3, 3, 2, 2, 4};
        for (int what = 0; what < want.length; what++) {
            due("count(" + what + ")", x.count(what), want[what]);
        }
        due("count(8)", x.count(8), OUTSIDE);
        due("count(-1)", x.count(-1), OUTSIDE);
    }

    /** As many as there can be of all: no call may go beyond its rows. */
    private void eightLeaves() {
        OneHinge x = check.told("house 8;put 7 8;sprung 7;door 4;door 40;door 67"
                + ";person 7;person 7;person 7;person 7;person 7");
        due("eight: fault()", x.fault(), 0);
        due("eight: count(4)", x.count(4), 1 + 16 + 128);
        due("eight: room(7, 3)", x.room(7, 3), 31);
        due("eight: as(7, 2)", x.as(7, 2), 3);
        due("eight: best(6, 0)", x.best(6, 0), 5);
        due("eight: best(6, 1)", x.best(6, 1), 7);
        due("eight: further(0)", x.further(0), 0);
        due("eight: widest(7)", x.widest(7), 65);
        due("eight: slam(7, 0, 1)", x.slam(7, ON, 1), 0);
        due("eight: fire(7, 1)", x.fire(7, BACK), 5);
        due("eight: errands(193, 7, -1)", x.errands(193, 7, NONE), 5);
        due("eight: push(7, 0, 72)", x.push(7, ON, 72), 72);
        due("eight: hours(99)", x.hours(99), 99);
        due("eight: leaf(7, 1)", x.leaf(7, 1), 63);
        due("eight: seen(7, 71)", x.seen(7, 71), 1);
        due("eight: least(7)", x.least(7), 16);
        due("eight: keep(1)", x.keep(1), 99);
        due("eight: leave(4)", x.leave(4), 7);
        due("eight: back(1)", x.back(1), 99);
        due("eight: person(4)", x.person(4), 7);
    }
}
