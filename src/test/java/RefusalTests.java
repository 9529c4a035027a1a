import java.util.ArrayList;
import java.util.List;

/**
 * Refused calls: the first of UNKNOWN, OUTSIDE, NOT, FULL that fits, and nothing changes; foretold ones change nothing
 * either. Each call is made on an object whose twin never had it; all that both answer from then on must be alike.
 */
public final class RefusalTests {
    private static final int NONE = OneHinge.NONE, UNKNOWN = OneHinge.UNKNOWN, OUTSIDE = OneHinge.OUTSIDE;
    private static final int NOT = OneHinge.NOT, FULL = OneHinge.FULL;
    private static final int[] WRONG = {-1, -2, -72, 8, 9, 72, 100, 255, 256, Integer.MIN_VALUE, Integer.MAX_VALUE};

    private interface Scene {
        OneHinge make();
    }

    private interface Call {
        int on(OneHinge x);
    }

    private final Check check = new Check();
    private Scene scene;
    private List<Integer> untouched;

    public static void main(String[] args) {
        RefusalTests tests = new RefusalTests();
        tests.scenesAreAsMeant();
        tests.at(tests::lived);
        tests.unknownOnes();
        tests.unknownAheadOfAllElse();
        tests.outside();
        tests.outsideAheadOfNot();
        tests.notNow();
        tests.foretold();
        tests.at(tests::faulty);
        tests.notWithAFault();
        tests.at(tests::fresh);
        tests.notWithNothingKept();
        tests.at(tests::full);
        tests.fullOnes();
        tests.otherRefusalsAheadOfFull();
        tests.notMoreThanFive();
        tests.at(tests::nearlyFull);
        tests.fullByMoreThanOne();
        tests.check.end();
    }

    // ---- scenes

    /** Five leaves of all kinds, some away from home, one of the people out, two houses kept, a text that stands. */
    private OneHinge lived() {
        OneHinge x = check.told("house 5;leaf 1 10;leaf 2 40;sprung 1;heavy 3;fixed 4;put 0 3;put 2 1;door 5;door 30");
        check.tell(x, "person 0;person 2;person 1;person 1;door 60");
        x.push(1, 0, 5);
        x.keep(0);
        x.leave(0);
        x.hours(2);
        x.push(2, 1, 4);
        x.keep(1);
        x.push(0, 1, 3);
        x.hours(1);
        x.seen(1, 20);
        x.seen(1, 70);
        x.seen(2, 3);
        Check.write(x, "leaf 1 12;plain 4");
        return x;
    }

    private OneHinge faulty() {
        OneHinge x = lived();
        Check.write(x, ";house 8;fixed 8");
        return x;
    }

    private OneHinge fresh() {
        OneHinge x = check.told("house 3;sprung 0;door 1;person 0;person 2");
        x.push(0, 0, 4);
        x.hours(3);
        return x;
    }

    /** As many as there can be of all. */
    private OneHinge full() {
        OneHinge x = check.told("house 8;sprung 1;fixed 4;door 1;door 28;door 60"
                + ";person 0;person 3;person 6;person 6;person 7");
        for (int i = 0; i < 101; i++) {
            x.hours(99);
        }
        x.push(1, 0, 6);
        x.leave(1);
        x.keep(0);
        for (int i = 0; i < 8; i++) {
            x.seen(i, 9 * i);
        }
        Check.write(x, "empty;house 6" + " ".repeat(187));
        return x;
    }

    private OneHinge nearlyFull() {
        OneHinge x = check.told("sprung 1;door 1;person 0");
        for (int i = 0; i < 100; i++) {
            x.hours(99);
        }
        x.hours(50);
        x.push(1, 0, 6);
        Check.write(x, "empty" + " ".repeat(190));
        return x;
    }

    /** Were a scene not so, a refusal in it could come from elsewhere. */
    private void scenesAreAsMeant() {
        OneHinge lived = lived();
        check.due("lived: open rooms", lived.count(4), 0b10011);
        check.due("lived: out", lived.count(5), 1);
        check.due("lived: hours", lived.count(3), 3);
        check.due("lived: leaf 1 away from home", lived.leaf(1, 1), 12);
        check.due("lived: leaf 2 away from home", lived.leaf(2, 1), 36);
        check.due("lived: its text stands", lived.fault(), NONE);
        OneHinge full = full();
        int[] most = {8, 3, 5, 9999, full.count(4), 2, 8, 200};
        for (int what = 0; what < 8; what++) {
            check.due("full: count(" + what + ")", full.count(what), most[what]);
        }
        check.due("full: its text stands", full.fault(), NONE);
        check.due("nearly full: hours", nearlyFull().count(3), 9950);
        check.due("nearly full: bytes", nearlyFull().count(7), 195);
    }

    private void at(Scene next) {
        scene = next;
        untouched = allAnswers(scene.make());
    }

    // ---- what is held against one another

    /** All that can be asked of an object, of what it has kept, and of its text when that is done. */
    private static List<Integer> allAnswers(OneHinge x) {
        List<Integer> answers = new ArrayList<>();
        addState(x, answers);
        for (int k = 0; k < 2; k++) {
            answers.add(x.back(k));
            addPlaces(x, answers);
            answers.add(x.count(3));
        }
        answers.add(x.house());
        addState(x, answers);
        return answers;
    }

    private static void addState(OneHinge x, List<Integer> answers) {
        for (int what = 0; what < 8; what++) {
            answers.add(x.count(what));
        }
        addPlaces(x, answers);
        for (int i = 0; i < 8; i++) {
            answers.add(x.leaf(i, 0));
            answers.add(x.leaf(i, 2));
            answers.add(x.room(i, 1));
            answers.add(x.room(i, 3));
            answers.add(x.least(i));
        }
        answers.add(x.fault());
    }

    private static void addPlaces(OneHinge x, List<Integer> answers) {
        for (int leaf = 0; leaf < 8; leaf++) {
            answers.add(x.leaf(leaf, 1));
        }
        for (int person = 0; person < 5; person++) {
            answers.add(x.person(person));
        }
    }

    /** The call answers so, and leaves nothing that tells the object from its twin. */
    private void stays(String name, int want, Call call) {
        OneHinge x = scene.make();
        check.due(name, call.on(x), want);
        check.holds(name + " changes nothing", allAnswers(x).equals(untouched));
    }

    /** A call that is answered changes nothing, and answers alike when it is made once more. */
    private void foretells(String name, Call call) {
        OneHinge x = scene.make();
        int first = call.on(x);
        check.holds(name + " is no refusal", first >= NONE);
        check.due(name + " once more", call.on(x), first);
        check.holds(name + " changes nothing", allAnswers(x).equals(untouched));
    }

    // ---- refused

    private void unknownOnes() {
        check.sentence("UNKNOWN (no such LEAF, ROOM, one of PEOPLE; a set with such)");
        for (int wrong : WRONG) {
            unknown(wrong);
        }
        unknown(5);
        for (int rooms : new int[] {32, 33, 64, 256, 1 << 30, Integer.MIN_VALUE, -1, Integer.MAX_VALUE}) {
            stays("errands(" + rooms + ", 0, -1)", UNKNOWN, x -> x.errands(rooms, 0, NONE));
        }
        for (int person : new int[] {4, 5}) {
            stays("person(" + person + ")", UNKNOWN, x -> x.person(person));
            stays("leave(" + person + ")", UNKNOWN, x -> x.leave(person));
            stays("enter(" + person + ", 0)", UNKNOWN, x -> x.enter(person, 0));
        }
        stays("keep(2)", UNKNOWN, x -> x.keep(2));
        stays("back(2)", UNKNOWN, x -> x.back(2));
    }

    private void unknown(int no) {
        stays("leaf(" + no + ", 0)", UNKNOWN, x -> x.leaf(no, 0));
        stays("room(" + no + ", 0)", UNKNOWN, x -> x.room(no, 0));
        stays("as(" + no + ", 0)", UNKNOWN, x -> x.as(no, 0));
        stays("person(" + no + ")", UNKNOWN, x -> x.person(no));
        stays("push(" + no + ", 0, 1)", UNKNOWN, x -> x.push(no, 0, 1));
        stays("leave(" + no + ")", UNKNOWN, x -> x.leave(no));
        stays("enter(" + no + ", 0)", UNKNOWN, x -> x.enter(no, 0));
        stays("enter(0, " + no + ")", UNKNOWN, x -> x.enter(0, no));
        stays("keep(" + no + ")", UNKNOWN, x -> x.keep(no));
        stays("back(" + no + ")", UNKNOWN, x -> x.back(no));
        stays("turn(" + no + ", 0, 0)", UNKNOWN, x -> x.turn(no, 0, 0));
        stays("turn(0, 0, " + no + ")", UNKNOWN, x -> x.turn(0, 0, no));
        stays("best(" + no + ", 0)", UNKNOWN, x -> x.best(no, 0));
        stays("widest(" + no + ")", UNKNOWN, x -> x.widest(no));
        stays("share(" + no + ", 0)", UNKNOWN, x -> x.share(no, 0));
        stays("errands(1, " + no + ", -1)", UNKNOWN, x -> x.errands(1, no, NONE));
        stays("slam(" + no + ", 0, 0)", UNKNOWN, x -> x.slam(no, 0, 0));
        stays("fire(" + no + ", 0)", UNKNOWN, x -> x.fire(no, 0));
        stays("seen(" + no + ", 0)", UNKNOWN, x -> x.seen(no, 0));
        stays("least(" + no + ")", UNKNOWN, x -> x.least(no));
    }

    private void unknownAheadOfAllElse() {
        check.sentence("the first of these that fits: UNKNOWN ahead of OUTSIDE, NOT");
        for (int wrong : WRONG) {
            stays("leaf(5, " + wrong + ")", UNKNOWN, x -> x.leaf(5, wrong));
            stays("room(5, " + wrong + ")", UNKNOWN, x -> x.room(5, wrong));
            stays("as(5, " + wrong + ")", UNKNOWN, x -> x.as(5, wrong));
            stays("push(5, " + wrong + ", 0)", UNKNOWN, x -> x.push(5, wrong, 0));
            stays("turn(5, " + wrong + ", 0)", UNKNOWN, x -> x.turn(5, wrong, 0));
            stays("turn(0, " + wrong + ", 5)", UNKNOWN, x -> x.turn(0, wrong, 5));
            stays("best(5, " + wrong + ")", UNKNOWN, x -> x.best(5, wrong));
            stays("share(5, " + wrong + ")", UNKNOWN, x -> x.share(5, wrong));
            stays("slam(5, " + wrong + ", 2)", UNKNOWN, x -> x.slam(5, wrong, 2));
            stays("fire(5, " + wrong + ")", UNKNOWN, x -> x.fire(5, wrong));
            stays("errands(63, 0, " + wrong + ")", UNKNOWN, x -> x.errands(63, 0, wrong));
            stays("errands(1, 5, " + wrong + ")", UNKNOWN, x -> x.errands(1, 5, wrong));
        }
        stays("seen(5, 72)", UNKNOWN, x -> x.seen(5, 72));
        stays("enter(1, 5): he is not out", UNKNOWN, x -> x.enter(1, 5));
        stays("enter(4, 1): it is not open", UNKNOWN, x -> x.enter(4, 1));
    }

    private void outside() {
        check.sentence("OUTSIDE (another number is not as told)");
        for (int wrong : WRONG) {
            outside(wrong);
        }
        stays("leaf(0, 3)", OUTSIDE, x -> x.leaf(0, 3));
        stays("room(0, 4)", OUTSIDE, x -> x.room(0, 4));
        stays("as(0, 5)", OUTSIDE, x -> x.as(0, 5));
        stays("push(0, 2, 1)", OUTSIDE, x -> x.push(0, 2, 1));
        stays("push(0, 0, 0)", OUTSIDE, x -> x.push(0, 0, 0));
        stays("push(0, 0, 73)", OUTSIDE, x -> x.push(0, 0, 73));
        stays("hours(0)", OUTSIDE, x -> x.hours(0));
        stays("hours(100)", OUTSIDE, x -> x.hours(100));
        stays("turn(0, 2, 0)", OUTSIDE, x -> x.turn(0, 2, 0));
        stays("best(0, 3)", OUTSIDE, x -> x.best(0, 3));
        stays("further(2)", OUTSIDE, x -> x.further(2));
        stays("share(0, 2)", OUTSIDE, x -> x.share(0, 2));
        stays("errands(1, 0, -2)", OUTSIDE, x -> x.errands(1, 0, -2));
        stays("slam(0, 2, 0)", OUTSIDE, x -> x.slam(0, 2, 0));
        stays("slam(0, 0, 2)", OUTSIDE, x -> x.slam(0, 0, 2));
        stays("fire(0, 2)", OUTSIDE, x -> x.fire(0, 2));
        stays("seen(0, 72)", OUTSIDE, x -> x.seen(0, 72));
        stays("write(.., 0)", OUTSIDE, x -> x.write(0x65, 0));
        stays("write(.., 9)", OUTSIDE, x -> x.write(0x65, 9));
        stays("count(8)", OUTSIDE, x -> x.count(8));
    }

    private void outside(int wrong) {
        boolean bytes = wrong >= 1 && wrong <= 8;
        boolean hours = wrong >= 1 && wrong <= 99;
        boolean steps = wrong >= 1 && wrong <= 72;
        stays("leaf(0, " + wrong + ")", OUTSIDE, x -> x.leaf(0, wrong));
        stays("room(0, " + wrong + ")", OUTSIDE, x -> x.room(0, wrong));
        stays("as(0, " + wrong + ")", OUTSIDE, x -> x.as(0, wrong));
        stays("push(0, " + wrong + ", 1)", OUTSIDE, x -> x.push(0, wrong, 1));
        stays("turn(0, " + wrong + ", 0)", OUTSIDE, x -> x.turn(0, wrong, 0));
        stays("best(0, " + wrong + ")", OUTSIDE, x -> x.best(0, wrong));
        stays("further(" + wrong + ")", OUTSIDE, x -> x.further(wrong));
        stays("share(0, " + wrong + ")", OUTSIDE, x -> x.share(0, wrong));
        stays("slam(0, " + wrong + ", 0)", OUTSIDE, x -> x.slam(0, wrong, 0));
        stays("slam(0, 0, " + wrong + ")", OUTSIDE, x -> x.slam(0, 0, wrong));
        stays("fire(0, " + wrong + ")", OUTSIDE, x -> x.fire(0, wrong));
        stays("count(" + wrong + ")", OUTSIDE, x -> x.count(wrong));
        if (!bytes) {
            stays("write(.., " + wrong + ")", OUTSIDE, x -> x.write(0x65, wrong));
        }
        if (!hours) {
            stays("hours(" + wrong + ")", OUTSIDE, x -> x.hours(wrong));
        }
        if (!steps) {
            stays("push(0, 0, " + wrong + ")", OUTSIDE, x -> x.push(0, 0, wrong));
        }
        if (wrong < 0 || wrong > 71) {
            stays("seen(0, " + wrong + ")", OUTSIDE, x -> x.seen(0, wrong));
        }
        if (wrong < NONE) {
            stays("errands(1, 0, " + wrong + ")", OUTSIDE, x -> x.errands(1, 0, wrong));
        }
    }

    private void outsideAheadOfNot() {
        check.sentence("the first of these that fits: OUTSIDE ahead of NOT");
        stays("as(0, 5)", OUTSIDE, x -> x.as(0, 5));
        stays("slam(4, 2, 0): it is fixed", OUTSIDE, x -> x.slam(4, 2, 0));
        stays("slam(4, 0, 2): it is fixed", OUTSIDE, x -> x.slam(4, 0, 2));
        stays("push(4, 2, 1): it is fixed", OUTSIDE, x -> x.push(4, 2, 1));
        stays("push(4, 0, 0): it is fixed", OUTSIDE, x -> x.push(4, 0, 0));
    }

    private void notNow() {
        check.sentence("NOT (not now: as told)");
        stays("as(0, 2): it is plain", NOT, x -> x.as(0, 2));
        stays("as(0, 3): it is plain", NOT, x -> x.as(0, 3));
        stays("as(1, 3): it is sprung", NOT, x -> x.as(1, 3));
        stays("as(3, 1): it is heavy", NOT, x -> x.as(3, 1));
        stays("as(3, 4): it is heavy", NOT, x -> x.as(3, 4));
        stays("as(4, 2): it is fixed", NOT, x -> x.as(4, 2));
        stays("leave(0): he is out", NOT, x -> x.leave(0));
        stays("leave(1): his room is not open", NOT, x -> x.leave(1));
        stays("enter(0, 2): it is not open", NOT, x -> x.enter(0, 2));
        stays("enter(1, 0): he is not out", NOT, x -> x.enter(1, 0));
        stays("enter(1, 2): he is not out, it is not open", NOT, x -> x.enter(1, 2));
        stays("slam(4, 0, 0): it is fixed", NOT, x -> x.slam(4, 0, 0));
        stays("slam(4, 1, 1): it is fixed", NOT, x -> x.slam(4, 1, 1));
        check.sentence("a push that moves nothing");
        stays("push(4, 0, 72)", 0, x -> x.push(4, 0, 72));
    }

    private void notWithAFault() {
        check.sentence("house: NOT: it has a FAULT");
        stays("house()", NOT, OneHinge::house);
        stays("fault()", 32, OneHinge::fault);
    }

    private void notWithNothingKept() {
        check.sentence("back: NOT: nothing was kept since the last text");
        stays("back(0)", NOT, x -> x.back(0));
        stays("back(1)", NOT, x -> x.back(1));
        stays("house() of no text", NOT, OneHinge::house);
        stays("erase() of no text", 0, OneHinge::erase);
        stays("forget() of nothing", 0, OneHinge::forget);
    }

    private void fullOnes() {
        check.sentence("FULL");
        for (int n = 1; n <= 8; n++) {
            int bytes = n;
            stays("write(.., " + n + ")", FULL, x -> x.write(0x6161616161616161L, bytes));
        }
        for (int n : new int[] {1, 2, 50, 98, 99}) {
            stays("hours(" + n + ")", FULL, x -> x.hours(n));
        }
        for (int leaf = 0; leaf < 8; leaf++) {
            int which = leaf;
            stays("seen(" + leaf + ", 71)", FULL, x -> x.seen(which, 71));
        }
    }

    private void otherRefusalsAheadOfFull() {
        check.sentence("the first of these that fits: UNKNOWN, OUTSIDE ahead of FULL");
        stays("write(.., 0)", OUTSIDE, x -> x.write(0x65, 0));
        stays("write(.., 9)", OUTSIDE, x -> x.write(0x65, 9));
        stays("hours(0)", OUTSIDE, x -> x.hours(0));
        stays("hours(100)", OUTSIDE, x -> x.hours(100));
        stays("seen(8, 0)", UNKNOWN, x -> x.seen(8, 0));
        stays("seen(-1, 72)", UNKNOWN, x -> x.seen(-1, 72));
        stays("seen(0, 72)", OUTSIDE, x -> x.seen(0, 72));
        stays("seen(0, -1)", OUTSIDE, x -> x.seen(0, -1));
    }

    private void notMoreThanFive() {
        check.sentence("errands: NOT: more than 5");
        for (int rooms = 0; rooms < 256; rooms++) {
            int set = rooms;
            if (Integer.bitCount(rooms) > 5) {
                stays("errands(" + rooms + ", 0, -1)", NOT, x -> x.errands(set, 0, NONE));
                stays("errands(" + rooms + ", 7, 6)", NOT, x -> x.errands(set, 7, 6));
                stays("errands(" + rooms + ", 0, -2)", OUTSIDE, x -> x.errands(set, 0, -2));
                stays("errands(" + rooms + ", 8, 0)", UNKNOWN, x -> x.errands(set, 8, 0));
            } else {
                foretells("errands(" + rooms + ", 2, 0)", x -> x.errands(set, 2, 0));
            }
        }
    }

    private void fullByMoreThanOne() {
        check.sentence("FULL: not even a part of what would be too much");
        stays("write of six to 201", FULL, x -> x.write(0x202020202020L, 6));
        stays("write of eight to 203", FULL, x -> x.write(0x2020202020202020L, 8));
        stays("hours(50) to 10000", FULL, x -> x.hours(50));
        stays("hours(99) to 10049", FULL, x -> x.hours(99));
        OneHinge x = scene.make();
        check.due("write of five to 200", x.write(0x2020202020L, 5), 200);
        check.due("hours(49) to 9999", x.hours(49), 9999);
    }

    // ---- foretold

    private void foretold() {
        check.sentence("FORETOLD (nothing changes)");
        for (int i = 0; i < 5; i++) {
            foretoldOf(i);
            for (int side = 0; side < 2; side++) {
                foretoldOf(i, side);
            }
        }
        for (int what = 0; what < 2; what++) {
            int asked = what;
            foretells("further(" + what + ")", x -> x.further(asked));
        }
        for (int rooms = 0; rooms < 32; rooms++) {
            int set = rooms;
            for (int leaf = 0; leaf < 5; leaf++) {
                int by = leaf;
                foretells("errands(" + rooms + ", " + leaf + ", -1)", x -> x.errands(set, by, NONE));
            }
        }
        foretells("fault()", OneHinge::fault);
        for (int what = 0; what < 8; what++) {
            int asked = what;
            foretells("count(" + what + ")", x -> x.count(asked));
        }
    }

    private void foretoldOf(int i) {
        foretells("widest(" + i + ")", x -> x.widest(i));
        foretells("least(" + i + ")", x -> x.least(i));
        foretells("as(" + i + ", 0)", x -> x.as(i, 0));
        for (int what = 0; what < 3; what++) {
            int asked = what;
            foretells("best(" + i + ", " + what + ")", x -> x.best(i, asked));
        }
    }

    private void foretoldOf(int i, int side) {
        foretells("share(" + i + ", " + side + ")", x -> x.share(i, side));
        foretells("fire(" + i + ", " + side + ")", x -> x.fire(i, side));
        if (i != 4) {
            foretells("slam(" + i + ", " + side + ", 0)", x -> x.slam(i, side, 0));
            foretells("slam(" + i + ", " + side + ", 1)", x -> x.slam(i, side, 1));
        }
        for (int room = 0; room < 5; room++) {
            int to = room;
            foretells("turn(" + i + ", " + side + ", " + room + ")", x -> x.turn(i, side, to));
        }
    }
}
