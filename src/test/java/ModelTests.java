import java.nio.charset.StandardCharsets;
import java.util.Random;

/** Seeded runs of calls on the class and on the model, whose answers must be alike. */
public final class ModelTests {
    private static final int RUNS = 400;
    private static final int CALLS = 512;
    private static final int[] WRONG = {-1, -2, -3, 8, 9, 72, 73, 99, 100, 255, Integer.MAX_VALUE, Integer.MIN_VALUE};

    private final Check check;
    private final Random random;
    private final String run;
    private final OneHinge x = new OneHinge();
    private final Model model = new Model();
    private int calls = 0;

    private ModelTests(Check check, int seed) {
        this.check = check;
        random = new Random(seed);
        run = "seed " + seed + ", call ";
    }

    public static void main(String[] args) {
        Check check = new Check();
        for (int seed = 0; seed < RUNS; seed++) {
            new ModelTests(check, seed).go();
        }
        check.end();
    }

    private void go() {
        while (calls < CALLS - 60) {
            tell();
            int until = Math.min(CALLS - 60, calls + 10 + random.nextInt(120));
            while (calls < until) {
                call(random.nextInt(24));
            }
        }
    }

    private void alike(String call, int got, int want) {
        calls++;
        check.due(run + calls + ": " + call, got, want);
    }

    /** A text of lines that mostly stand, at times with a byte changed. */
    private void tell() {
        alike("erase()", x.erase(), model.erase());
        String text = random.nextInt(3) == 0 ? mixedText() : scene();
        byte[] bytes = text.getBytes(StandardCharsets.ISO_8859_1);
        int at = 0;
        while (at < bytes.length) {
            int n = Math.min(1 + random.nextInt(8) | 4, Math.min(8, bytes.length - at));
            long packed = Check.packed(bytes, at, n) | (n < 8 ? random.nextLong() << 8 * n : 0);
            alike("write(" + packed + ", " + n + ")", x.write(packed, n), model.write(packed, n));
            at += n;
        }
        alike("fault() of '" + text + "'", x.fault(), model.fault());
        alike("house() of '" + text + "'", x.house(), model.house());
    }

    /** A house in which rooms can be opened: three doors, people, a few leaves that are not plain. */
    private String scene() {
        int n = 3 + random.nextInt(6);
        int first = random.nextInt(24);
        StringBuilder text = new StringBuilder("house " + n);
        for (int i = 0; i < 3; i++) {
            text.append(";door ").append(first + 24 * i + random.nextInt(i == 2 ? 1 : 12) - (i == 2 ? first : 0));
        }
        for (int i = random.nextInt(6); i > 0; i--) {
            text.append(";person ").append(random.nextInt(n));
        }
        String[] kinds = {"sprung", "sprung", "heavy", "fixed"};
        for (int i = random.nextInt(4); i > 0; i--) {
            int leaf = random.nextInt(n);
            text.append(random.nextBoolean() ? ";" + kinds[random.nextInt(4)] + " " + leaf
                    : ";put " + leaf + " " + random.nextInt(72 / n - random.nextInt(2)) % 21);
        }
        return text.toString();
    }

    private String mixedText() {
        StringBuilder text = new StringBuilder();
        int n = model.count(0);
        int lines = 1 + random.nextInt(random.nextInt(8) == 0 ? 14 : 8);
        for (int i = 0; i < lines; i++) {
            text.append(i == 0 ? blanks() : blanks() + ";" + blanks()).append(line(n)).append(blanks());
        }
        if (random.nextInt(3) == 0) {
            text.setCharAt(random.nextInt(text.length()), " ;0129aeht\u00ff\u0000E".charAt(random.nextInt(13)));
        }
        return text.toString();
    }

    private String blanks() {
        return " ".repeat(random.nextInt(12) == 0 ? random.nextInt(3) : 0);
    }

    private String line(int n) {
        String leaf = " " + random.nextInt(random.nextInt(40) == 0 ? n + 1 : n);
        return switch (random.nextInt(13)) {
            case 0 -> "plain" + leaf;
            case 1 -> "sprung" + leaf;
            case 2 -> "heavy" + leaf;
            case 3 -> "fixed" + leaf;
            case 4, 5 -> "put" + leaf + " " + random.nextInt(random.nextInt(5) == 0 ? 22 : 8);
            case 6 -> "door " + random.nextInt(72);
            case 7 -> "person" + leaf;
            case 8 -> "empty";
            default -> leafLine();
        };
    }

    private String leafLine() {
        int leaf = random.nextInt(model.count(0));
        int near = Math.floorMod(model.leaf(leaf, 2) + random.nextInt(13) - 6, 72);
        return "leaf " + leaf + " " + near;
    }

    private int number(int below) {
        return random.nextInt(25) == 0 ? WRONG[random.nextInt(WRONG.length)] : random.nextInt(below);
    }

    private void call(int which) {
        int leaf = number(model.count(0));
        int room = number(model.count(0));
        int side = number(2);
        int person = number(Math.max(1, model.count(2)));
        switch (which) {
            case 0 -> { int w = number(3); alike("leaf", x.leaf(leaf, w), model.leaf(leaf, w)); }
            case 1 -> { int w = number(4); alike("room", x.room(room, w), model.room(room, w)); }
            case 2 -> { int k = number(5); alike("as", x.as(leaf, k), model.as(leaf, k)); }
            case 3 -> alike("person", x.person(person), model.person(person));
            case 4, 5 -> { int d = 1 + number(random.nextBoolean() ? 72 : 9);
                alike("push", x.push(leaf, side, d), model.push(leaf, side, d)); }
            case 6 -> { int n = 1 + number(random.nextBoolean() ? 6 : 99); alike("hours", x.hours(n), model.hours(n)); }
            case 7 -> alike("leave", x.leave(person), model.leave(person));
            case 8 -> alike("enter", x.enter(person, room), model.enter(person, room));
            case 9 -> { int k = number(2); alike("keep", x.keep(k), model.keep(k)); }
            case 10 -> { int k = number(2); alike("back", x.back(k), model.back(k)); }
            case 11, 12 -> alike("turn", x.turn(leaf, side, room), model.turn(leaf, side, room));
            case 13 -> { int w = number(3); alike("best", x.best(room, w), model.best(room, w)); }
            case 14 -> alike("widest", x.widest(room), model.widest(room));
            case 15 -> { int w = number(2); alike("further", x.further(w), model.further(w)); }
            case 16 -> { int p = number(2); alike("share", x.share(room, p), model.share(room, p)); }
            case 17 -> errands(leaf);
            case 18 -> { int w = number(2); alike("slam", x.slam(leaf, side, w), model.slam(leaf, side, w)); }
            case 19 -> alike("fire", x.fire(leaf, side), model.fire(leaf, side));
            case 20 -> { int a = number(72); alike("seen", x.seen(leaf, a), model.seen(leaf, a)); }
            case 21 -> { if (random.nextInt(6) == 0) { alike("forget", x.forget(), model.forget()); } }
            case 22 -> alike("least", x.least(leaf), model.least(leaf));
            default -> { int w = number(8); alike("count", x.count(w), model.count(w)); }
        }
    }

    /** Mostly rooms that the leaf can open from here, as a set with any other has no order. */
    private void errands(int leaf) {
        int rooms = random.nextInt(1 << model.count(0));
        if (random.nextInt(6) > 0) {
            for (int room = 0; room < model.count(0); room++) {
                boolean opens = model.turn(leaf, 0, room) >= 0 || model.turn(leaf, 1, room) >= 0;
                rooms &= opens ? -1 : ~(1 << room);
            }
        }
        // The model lists all orders, so that the largest sets are asked less often.
        if (Integer.bitCount(rooms) == 5 && random.nextInt(3) > 0) {
            rooms &= rooms - 1;
        }
        if (random.nextInt(20) == 0) {
            rooms = WRONG[random.nextInt(WRONG.length)];
        }
        int i = random.nextBoolean() ? OneHinge.NONE : number(6);
        alike("errands(" + rooms + ", " + leaf + ", " + i + ")", x.errands(rooms, leaf, i), model.errands(rooms, leaf, i));
    }
}
