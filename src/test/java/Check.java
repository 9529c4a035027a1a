import java.nio.charset.StandardCharsets;

/** What the tests share: texts written in whole, answers held against those that are due. */
final class Check {
    private int asked = 0;
    private int wrong = 0;
    private String sentence = "";

    /** The document's words that the next answers are held against: told with each wrong one. */
    void sentence(String words) {
        sentence = "[" + words + "] ";
    }

    void due(String call, long got, long want) {
        asked++;
        if (got != want) {
            wrong++;
            System.out.println(sentence + call + " answered " + got + ", due is " + want);
        }
    }

    void holds(String what, boolean so) {
        due(what, so ? 1 : 0, 1);
    }

    /** Ends the run with exit code 1, if an answer was wrong. */
    void end() {
        System.out.println(asked + " answers, " + wrong + " wrong");
        if (wrong != 0 || asked == 0) {
            System.exit(1);
        }
    }

    static int write(OneHinge x, String text) {
        byte[] bytes = text.getBytes(StandardCharsets.ISO_8859_1);
        int answer = x.count(7);
        for (int at = 0; at < bytes.length; at += 8) {
            int n = Math.min(8, bytes.length - at);
            answer = x.write(packed(bytes, at, n), n);
        }
        return answer;
    }

    static long packed(byte[] bytes, int at, int n) {
        long packed = 0;
        for (int i = 0; i < n; i++) {
            packed |= (bytes[at + i] & 255L) << 8 * i;
        }
        return packed;
    }

    /** A new object behind a text that must stand. */
    OneHinge told(String text) {
        OneHinge x = new OneHinge();
        tell(x, text);
        return x;
    }

    void tell(OneHinge x, String text) {
        write(x, text);
        due("house() of '" + text + "'", x.house(), text.split(";").length);
    }

    void faultAt(String text, int place) {
        faultAt(new OneHinge(), text, place);
    }

    /** The fault of a text on an object, which is left as it was. */
    void faultAt(OneHinge x, String text, int place) {
        x.erase();
        write(x, text);
        due("fault() of '" + text + "'", x.fault(), place);
        if (place != OneHinge.NONE) {
            due("house() of '" + text + "'", x.house(), OneHinge.NOT);
            due("count(7) behind house() of '" + text + "'", x.count(7), text.length());
        }
        x.erase();
    }

    void angles(String when, OneHinge x, int... want) {
        for (int i = 0; i < want.length; i++) {
            due(when + ": leaf(" + i + ", 1)", x.leaf(i, 1), want[i]);
        }
    }
}
