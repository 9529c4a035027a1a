/** Each sentence of the document about what is told that names an edge, with a test of its own. */
public final class TextEdgeTests {
    private static final int NONE = OneHinge.NONE, UNKNOWN = OneHinge.UNKNOWN, OUTSIDE = OneHinge.OUTSIDE;
    private static final int NOT = OneHinge.NOT, FULL = OneHinge.FULL;
    private static final int ON = 0, BACK = 1;

    /** Every line that there is, on a new house. */
    private static final String[] LINES = {"house 3", "leaf 1 18", "leaf 0 71", "plain 0", "sprung 0", "heavy 0",
        "fixed 0", "put 0 0", "door 0", "person 0", "empty"};
    private static final int[][] FIRST_ANGLES = {{0, 24, 48}, {0, 18, 36, 54}, {0, 14, 28, 43, 57},
        {0, 12, 24, 36, 48, 60}, {0, 10, 20, 30, 41, 51, 61}, {0, 9, 18, 27, 36, 45, 54, 63}};

    private final Check check = new Check();

    public static void main(String[] args) {
        TextEdgeTests tests = new TextEdgeTests();
        tests.behind71Is0();
        tests.fromThreeToEightLeaves();
        tests.behindTheLastLeafIsLeaf0();
        tests.leavesAreAt72iByNAtFirst();
        tests.allIsPlainAndEmptyAtFirst();
        tests.furnitureIs0To20();
        tests.widthIsNeverBelowNeed();
        tests.threeDoorsAtMost();
        tests.fivePeopleAtMost();
        tests.bytesAreTakenByEights();
        tests.twoHundredBytesAtMost();
        tests.eraseEmptiesTheText();
        tests.twelveLinesAtMost();
        tests.linesStandWithSemicolonsBetween();
        tests.wordsAreAsWritten();
        tests.linesEndTooSoon();
        tests.linesGoOnTooLong();
        tests.numbersHaveOneOrTwoDigits();
        tests.numbersStandInTheirBounds();
        tests.anyOtherByteIsAToken();
        tests.blanksStandBetween();
        tests.leafKeepsNeedAndOrder();
        tests.leafKeepsNeedOfFurniture();
        tests.putStaysWithinWidth();
        tests.doorThatIsThere();
        tests.sixthPersonAtItsWord();
        tests.emptyMeansNobody();
        tests.houseIsAllElseAsAtFirst();
        tests.numbersGoByTheLinesAhead();
        tests.linesAreDoneInTheirOrder();
        tests.linesAreDoneAsAllWasTold();
        tests.behindTheLines();
        tests.firstFaultCounts();
        tests.faultAndHouseOfNothing();
        tests.faultsChangeNothing();
        tests.check.end();
    }

    private void due(String call, long got, long want) {
        check.due(call, got, want);
    }

    // ---- the post, leaves, rooms

    private void behind71Is0() {
        check.sentence("72 STEPS around, 0 .. 71, behind 71 is 0");
        OneHinge x = check.told("leaf 0 71;sprung 0;door 0;person 3");
        due("width over 71", x.room(0, 0), 19);
        due("width to 71", x.room(3, 0), 17);
        due("a door at 0 behind a leaf at 71", x.count(4), 1);
        due("slam over 71", x.slam(0, ON, 0), 18);
        due("turn over 71", x.turn(0, ON, 3), 2);
        due("best over 71", x.best(3, 0), 2);
        due("errands over 71", x.errands(9, 0, NONE), 2);
        due("fire over 71", x.fire(0, ON), 3);
        due("one step on from 71", x.push(0, ON, 1), 1);
        due("is 0", x.leaf(0, 1), 0);
        due("least over 71", x.least(0), 1);
        due("a door at a leaf at 0", x.count(4), 0);
        due("one step back from 0", x.push(0, BACK, 1), 1);
        due("is 71", x.leaf(0, 1), 71);
        due("three steps on", x.push(0, ON, 3), 3);
        due("an hour back", x.hours(2), 2);
        due("from 2 to 0", x.leaf(0, 1), 0);
        due("one more", x.hours(1), 3);
        due("from 0 to 71", x.leaf(0, 1), 71);
        OneHinge y = check.told("sprung 0");
        due("two steps back from 0", y.push(0, BACK, 2), 2);
        due("two hours on", y.hours(2), 2);
        due("from 70 to 0", y.leaf(0, 1), 0);
    }

    private void fromThreeToEightLeaves() {
        check.sentence("LEAVES are 0 .. n less 1 (n 3 .. 8; 4 at first)");
        due("count(0) at first", new OneHinge().count(0), 4);
        for (int n = 0; n <= 99; n++) {
            check.faultAt("house " + n, n >= 3 && n <= 8 ? NONE : 6);
        }
        for (int n = 3; n <= 8; n++) {
            OneHinge x = check.told("house " + n);
            due(n + ": count(0)", x.count(0), n);
            due(n + ": the last leaf", x.leaf(n - 1, 0), 0);
            due(n + ": the last room", x.room(n - 1, 1), 0);
            due(n + ": no leaf behind it", x.leaf(n, 0), UNKNOWN);
            due(n + ": no room behind it", x.room(n, 0), UNKNOWN);
            due(n + ": no leaf below 0", x.leaf(-1, 0), UNKNOWN);
            due(n + ": no room below 0", x.room(-1, 0), UNKNOWN);
        }
    }

    private void behindTheLastLeafIsLeaf0() {
        check.sentence("one ON from each to the next, behind the last one 0");
        for (int n = 3; n <= 8; n++) {
            OneHinge x = check.told("house " + n + ";leaf " + (n - 1) + " 70");
            due(n + ": the last room", x.room(n - 1, 0), 2);
            due(n + ": the last leaf touches 0", x.slam(n - 1, ON, 1), 0);
            due(n + ": leaf 0 touches the last", x.slam(0, BACK, 1), n - 1);
            due(n + ": the last leaf carries leaf 0", x.push(n - 1, ON, 3), 3);
            due(n + ": by two", x.leaf(0, 1), 2);
            due(n + ": leaf 0 carries the last", x.push(0, BACK, 3), 3);
            due(n + ": by three", x.leaf(n - 1, 1), 70);
        }
    }

    private void leavesAreAt72iByNAtFirst() {
        check.sentence("LEAF i at 72 i by n, cut, at first");
        check.angles("a new object", new OneHinge(), FIRST_ANGLES[1]);
        for (int n = 3; n <= 8; n++) {
            OneHinge x = check.told("house " + n);
            check.angles("house " + n, x, FIRST_ANGLES[n - 3]);
            for (int i = 0; i < n; i++) {
                int next = i + 1 < n ? FIRST_ANGLES[n - 3][i + 1] : 72;
                due(n + ": home of " + i, x.leaf(i, 2), FIRST_ANGLES[n - 3][i]);
                due(n + ": width of " + i, x.room(i, 0), next - FIRST_ANGLES[n - 3][i]);
            }
        }
    }

    private void allIsPlainAndEmptyAtFirst() {
        check.sentence("Four PLAIN LEAVES, no DOORS, nobody");
        OneHinge x = new OneHinge();
        for (int i = 0; i < 4; i++) {
            due("kind of " + i, x.leaf(i, 0), 0);
            due("furniture of " + i, x.room(i, 1), 0);
            due("room " + i + " is not open", x.room(i, 2), 0);
            due("nobody in " + i, x.room(i, 3), 0);
        }
        due("doors", x.count(1), 0);
        due("people", x.count(2), 0);
        due("hours", x.count(3), 0);
        due("open rooms", x.count(4), 0);
        due("people that are out", x.count(5), 0);
        due("seen", x.count(6), 0);
        due("bytes", x.count(7), 0);
        due("person(0)", x.person(0), UNKNOWN);
        due("nothing is kept at 0", x.back(0), NOT);
        due("nothing is kept at 1", x.back(1), NOT);
        due("an empty text", x.fault(), 0);
    }

    private void furnitureIs0To20() {
        check.sentence("FURNITURE in it is 0 .. 20 (0 at first)");
        for (int f = 0; f <= 99; f++) {
            check.faultAt("house 3;put 2 " + f, f <= 20 ? NONE : 14);
        }
        OneHinge x = check.told("house 3");
        for (int f = 20; f >= 0; f--) {
            check.tell(x, "put 2 " + f);
            due("put 2 " + f, x.room(2, 1), f);
            due("its own room alone", x.room(1, 1), 0);
        }
    }

    private void widthIsNeverBelowNeed() {
        check.sentence("its NEED is FURNITURE and 1; WIDTH is never below NEED");
        for (int f = 0; f <= 20; f++) {
            OneHinge x = check.told("house 3;fixed 1;fixed 2;put 0 " + f + ";put 2 " + f);
            due("slam on, furniture " + f, x.slam(0, ON, 0), 23 - f);
            due("slam back, furniture " + f, x.slam(0, BACK, 0), 23 - f);
            due("push on, furniture " + f, x.push(0, ON, 72), 23 - f);
            due("width then", x.room(0, 0), f + 1);
            due("no step more", x.as(0, 0), 2);
            due("push back, furniture " + f, x.push(0, BACK, 72), 46 - 2 * f);
            due("width then", x.room(2, 0), f + 1);
        }
        OneHinge y = check.told("house 3;put 0 20;heavy 0;sprung 1");
        due("the heavy one carries the sprung one", y.push(0, ON, 13), 13);
        check.angles("carried", y, 13, 34, 48);
        due("hours go", y.hours(20), 20);
        check.angles("the sprung one cannot come home", y, 13, 34, 48);
    }

    private void threeDoorsAtMost() {
        check.sentence("DOORS are 3 STEPS at most (none at first)");
        OneHinge x = new OneHinge();
        for (int i = 1; i <= 3; i++) {
            check.tell(x, "door " + i);
            due("count(1)", x.count(1), i);
        }
        check.faultAt(x, "door 4", 5);
        due("no fourth", x.count(1), 3);
        check.faultAt("door 1;door 2;door 3", NONE);
        check.faultAt("door 1;door 2;door 3;door 4", 26);
        check.tell(x, "house 3;door 71;door 0;door 4");
        due("three again", x.count(1), 3);
    }

    private void fivePeopleAtMost() {
        check.sentence("PEOPLE are 0, 1 .. as they come, 5 at most (none at first), each in a ROOM");
        OneHinge x = new OneHinge();
        due("none at first", x.person(0), UNKNOWN);
        int[] rooms = {3, 0, 2, 3, 1};
        for (int i = 0; i < 5; i++) {
            check.tell(x, "person " + rooms[i]);
            due("count(2)", x.count(2), i + 1);
            due("one more is not there", x.person(i + 1), UNKNOWN);
            for (int j = 0; j <= i; j++) {
                due("person(" + j + ")", x.person(j), rooms[j]);
            }
        }
        check.faultAt(x, "person 0", 0);
        due("no sixth", x.count(2), 5);
        due("person(-1)", x.person(-1), UNKNOWN);
    }

    // ---- bytes and lines of the text

    private void bytesAreTakenByEights() {
        check.sentence("n (1 .. 8) bytes more of THE TEXT, byte i being bytes >> 8 i & 255: how many it has");
        OneHinge x = new OneHinge();
        for (int n : new int[] {0, -1, 9, 10, 16, Integer.MIN_VALUE, Integer.MAX_VALUE}) {
            due("write(.., " + n + ")", x.write(0x65, n), OUTSIDE);
            due("nothing is written", x.count(7), 0);
        }
        String all = "person 0;person 1;person 2;empty;empty";
        int length = 0;
        byte[] bytes = all.getBytes(java.nio.charset.StandardCharsets.ISO_8859_1);
        for (int n = 1; n <= 8; n++) {
            long junk = n < 8 ? 0x7a3b8000ff20e97aL << 8 * n : 0;
            due("write of " + n, x.write(Check.packed(bytes, length, n) | junk, n), length + n);
            length += n;
        }
        due("36 bytes", x.count(7), 36);
        due("the last two", x.write(0x7974, 2), 38);
        due("they stand", x.house(), 5);
        for (int i = 0; i < 8; i++) {
            OneHinge y = new OneHinge();
            due("a byte of 255 at " + i, y.write(0x2020202020202020L | 255L << 8 * i, 8), 8);
            due("its fault", y.fault(), i);
        }
    }

    private void twoHundredBytesAtMost() {
        check.sentence("THE TEXT is a row of bytes, 200 at most");
        for (int n = 1; n <= 8; n++) {
            OneHinge x = filled(200 - n);
            due("the last " + n, x.write(0x2020202020202020L, n), 200);
            OneHinge y = filled(201 - n);
            due(n + " where one less would do", y.write(0x2020202020202020L, n), FULL);
            due("nothing is written", y.count(7), 201 - n);
            due("nor behind 200", x.write(0x2020202020202020L, n), FULL);
            due("nothing is written", x.count(7), 200);
        }
        OneHinge z = new OneHinge();
        Check.write(z, "empty;".repeat(11) + "empty" + " ".repeat(129));
        due("200 bytes in 12 lines", z.house(), 12);
        due("room again", z.write('e', 1), 1);
        OneHinge w = new OneHinge();
        Check.write(w, " ".repeat(195) + "empty");
        due("a token that ends with the 200th byte", w.fault(), NONE);
        due("erase()", w.erase(), 200);
        Check.write(w, " ".repeat(200));
        due("the end at 200", w.fault(), 200);
        w.erase();
        Check.write(w, "empty" + " ".repeat(194) + "x");
        due("a token at 199", w.fault(), 199);
    }

    /** A new object whose text has so many blanks. */
    private static OneHinge filled(int bytes) {
        OneHinge x = new OneHinge();
        Check.write(x, " ".repeat(bytes));
        return x;
    }

    private void eraseEmptiesTheText() {
        check.sentence("THE TEXT is empty: how many bytes it had");
        OneHinge x = new OneHinge();
        due("of none", x.erase(), 0);
        x.write('e', 1);
        due("of one", x.erase(), 1);
        due("then of none", x.erase(), 0);
        due("its fault", x.fault(), 0);
        Check.write(x, " ".repeat(200));
        due("of 200", x.erase(), 200);
        due("count(7)", x.count(7), 0);
        Check.write(x, "person 3");
        due("nothing of the old text is left", x.house(), 1);
        due("erase() behind house()", x.erase(), 0);
    }

    private void twelveLinesAtMost() {
        check.sentence("LINES with ; (59) between, 12 at most");
        for (int lines = 1; lines <= 12; lines++) {
            OneHinge x = new OneHinge();
            Check.write(x, "empty;".repeat(lines - 1) + "plain 0");
            due(lines + " lines: fault()", x.fault(), NONE);
            due(lines + " lines: house()", x.house(), lines);
        }
        check.faultAt("empty;".repeat(12) + "empty", 71);
        check.faultAt("empty;".repeat(12), 71);
        check.faultAt("empty;".repeat(12) + "nonsense", 71);
        check.faultAt("empty;".repeat(11) + "empty  ;", 73);
        check.faultAt("empty;".repeat(33), 71);
    }

    private void linesStandWithSemicolonsBetween() {
        check.sentence("LINES with ; (59) between");
        check.faultAt("", 0);
        check.faultAt(";", 0);
        check.faultAt(";empty", 0);
        check.faultAt("empty;", 6);
        check.faultAt("empty; ", 7);
        check.faultAt("empty;;empty", 6);
        check.faultAt("empty; ;empty", 7);
        check.faultAt("empty empty", 6);
        check.faultAt("empty:empty", 5);
        check.faultAt("empty,empty", 5);
        check.faultAt("door 1 door 2", 7);
        check.faultAt("door 1;door 2", NONE);
        check.faultAt("empty;empty", NONE);
    }

    // ---- tokens

    private void wordsAreAsWritten() {
        check.sentence("each is one of: house N. leaf I A. .. empty. (As written here, without points)");
        for (String line : LINES) {
            String word = line.split(" ")[0];
            String rest = line.substring(word.length());
            check.faultAt(line, NONE);
            check.faultAt(word.substring(1) + rest, 0);
            check.faultAt(word.substring(0, word.length() - 1) + rest, 0);
            check.faultAt(word + "s" + rest, 0);
            check.faultAt("a" + word + rest, 0);
            check.faultAt(word + word + rest, 0);
            check.faultAt(word.toUpperCase() + rest, 0);
            check.faultAt(word.substring(0, 1).toUpperCase() + word.substring(1) + rest, 0);
            check.faultAt(word.substring(0, 2) + " " + word.substring(2) + rest, 0);
            check.faultAt(line + ".", line.length());
            check.faultAt("empty;" + word + "s" + rest, 6);
            for (int i = 0; i < word.length(); i++) {
                char other = word.charAt(i) == 'z' ? 'y' : (char) (word.charAt(i) + 1);
                check.faultAt(word.substring(0, i) + other + word.substring(i + 1) + rest, 0);
            }
        }
        for (String word : new String[] {"room 0", "person", "door", "heavy", "window 3", "plains 0", "push 0 0 1"}) {
            check.faultAt(word, word.indexOf(' ') < 0 ? word.length() : 0);
        }
    }

    private void linesEndTooSoon() {
        check.sentence("or at the end, if it comes too soon");
        for (String line : LINES) {
            String[] tokens = line.split(" ");
            String ahead = "";
            for (int i = 0; i + 1 < tokens.length; i++) {
                ahead += (i == 0 ? "" : " ") + tokens[i];
                check.faultAt(ahead, ahead.length());
                check.faultAt(ahead + "   ", ahead.length() + 3);
                check.faultAt(ahead + ";empty", ahead.length());
                check.faultAt(ahead + " ;empty", ahead.length() + 1);
                check.faultAt(ahead + " x", ahead.length() + 1);
                check.faultAt(ahead + " -1", ahead.length() + 1);
                check.faultAt(ahead + " \u00ff", ahead.length() + 1);
                check.faultAt("empty;" + ahead, ahead.length() + 6);
            }
        }
    }

    private void linesGoOnTooLong() {
        check.sentence("A FAULT is at the first TOKEN that cannot stand there");
        for (String line : LINES) {
            check.faultAt(line + " 0", line.length() + 1);
            check.faultAt(line + " x", line.length() + 1);
            check.faultAt(line + "x", line.equals("empty") ? 0 : line.length());
            check.faultAt(line + " " + line, line.length() + 1);
            check.faultAt(line + "-", line.length());
        }
    }

    private void numbersHaveOneOrTwoDigits() {
        check.sentence("numbers of 1 or 2 digits; of more digits, also");
        for (String line : LINES) {
            String[] tokens = line.split(" ");
            for (int i = 1; i < tokens.length; i++) {
                int at = line.indexOf(' ') + 1 + (i == 2 ? tokens[1].length() + 1 : 0);
                String ahead = line.substring(0, at);
                String behind = line.substring(at + tokens[i].length());
                String two = tokens[i].length() == 1 ? "0" + tokens[i] : tokens[i];
                check.faultAt(ahead + two + behind, NONE);
                check.faultAt(ahead + "0" + two + behind, at);
                check.faultAt(ahead + "000000" + two + behind, at);
                check.faultAt(ahead + "100" + behind, at);
            }
        }
        check.faultAt("door 4294967297", 5);
        check.faultAt("door 18446744073709551617", 5);
        check.faultAt("door " + "0".repeat(195), 5);
        check.faultAt("leaf0118", 4);
        check.faultAt("leaf01 18", NONE);
        check.faultAt("door 7 1", 7);
    }

    private void numbersStandInTheirBounds() {
        check.sentence("a number out of its bounds, also");
        for (int number = 0; number <= 99; number++) {
            int ofFour = number < 4 ? NONE : 0;
            for (String word : new String[] {"plain", "sprung", "heavy", "fixed", "person"}) {
                check.faultAt(word + " " + number, ofFour == NONE ? NONE : word.length() + 1);
            }
            check.faultAt("leaf " + number + " " + 18 * (number & 3), ofFour == NONE ? NONE : 5);
            check.faultAt("put " + number + " 0", ofFour == NONE ? NONE : 4);
            check.faultAt("door " + number, number < 72 ? NONE : 5);
        }
    }

    private void anyOtherByteIsAToken() {
        check.sentence("a TOKEN (a row of small letters, a row of digits, any other byte)");
        for (char sign = 0; sign < 256; sign++) {
            boolean letter = sign >= 'a' && sign <= 'z';
            boolean digit = sign >= '0' && sign <= '9';
            boolean blank = sign == ' ';
            check.faultAt("empty" + sign, blank ? NONE : letter ? 0 : sign == ';' ? 6 : 5);
            check.faultAt(sign + "empty", blank ? NONE : 0);
            check.faultAt("em" + sign + "pty", 0);
            check.faultAt("house " + sign, blank ? 7 : sign >= '3' && sign <= '8' ? NONE : 6);
            check.faultAt("door 1" + sign, blank || digit ? NONE : sign == ';' ? 7 : 6);
            check.faultAt("door 1" + sign + "2", blank ? 7 : digit ? 5 : sign == ';' ? 7 : 6);
            check.faultAt("empty" + sign + "empty", letter ? 0 : blank ? 6 : sign == ';' ? NONE : 5);
            check.faultAt("house" + sign + "3", blank ? NONE : letter ? 0 : digit ? (sign == '0' ? NONE : 5) : 5);
        }
    }

    private void blanksStandBetween() {
        check.sentence("blanks (32) between");
        check.faultAt("leaf    1    18", NONE);
        check.faultAt("leaf1 18", NONE);
        check.faultAt("  leaf 1 18", NONE);
        check.faultAt("leaf 1 18  ", NONE);
        check.faultAt("leaf 1 18  ;  empty", NONE);
        check.faultAt("leaf 1 1 8", 9);
        check.faultAt("door 1 ;  door  1", 16);
        check.faultAt("door\t1", 4);
        check.faultAt("door\n1", 4);
        check.faultAt("door\u00a01", 4);
        check.faultAt("door\u00001", 4);
    }

    // ---- lines

    private void leafKeepsNeedAndOrder() {
        check.sentence("leaf: its ANGLE, so that ROOMS on both sides keep their NEED and LEAVES their order");
        for (int leaf = 0; leaf < 4; leaf++) {
            for (int angle = 0; angle <= 99; angle++) {
                int behindNeighbour = Math.floorMod(angle - 18 * (leaf - 1), 72);
                boolean stands = angle < 72 && behindNeighbour >= 1 && behindNeighbour <= 35;
                check.faultAt("leaf " + leaf + " " + angle, stands ? NONE : 7);
            }
        }
        check.faultAt("leaf 1 10;leaf 2 10", 17);
        check.faultAt("leaf 1 10;leaf 2 11", NONE);
        check.faultAt("fixed 1;leaf 1 10", NONE);
        check.faultAt("leaf 0 71;leaf 3 0", 17);
        check.faultAt("leaf 0 1;leaf 3 0", NONE);
        check.faultAt("leaf 0 1;leaf 3 1", 16);
        OneHinge x = check.told("leaf 0 1;leaf 3 0;leaf 2 71");
        check.angles("over 71", x, 1, 18, 71, 0);
    }

    private void leafKeepsNeedOfFurniture() {
        check.sentence("leaf: ROOMS on both sides keep their NEED (else a FAULT at A)");
        for (int angle = 0; angle < 72; angle++) {
            boolean stands = angle >= 62 || angle <= 12;
            check.faultAt("put 0 5;put 3 7;leaf 0 " + angle, stands ? NONE : 23);
            check.faultAt("put 1 9;put 2 4;leaf 2 " + angle, angle >= 28 && angle <= 49 ? NONE : 23);
        }
        check.faultAt("put 0 17;put 3 17;leaf 0 0", NONE);
        check.faultAt("put 0 17;put 3 17;leaf 0 1", 25);
        check.faultAt("put 0 17;put 3 17;leaf 0 71", 25);
    }

    private void putStaysWithinWidth() {
        check.sentence("put: FURNITURE, its NEED not above WIDTH (else a FAULT at F)");
        for (int f = 0; f <= 99; f++) {
            check.faultAt("put 3 " + f, f <= 17 ? NONE : 6);
            check.faultAt("leaf 1 1;put 0 " + f, f == 0 ? NONE : 15);
            check.faultAt("leaf 1 20;put 0 " + f, f <= 19 ? NONE : 16);
            check.faultAt("leaf 1 21;put 0 " + f, f <= 20 ? NONE : 16);
            check.faultAt("leaf 1 35;put 0 " + f, f <= 20 ? NONE : 16);
            check.faultAt("leaf 0 71;put 3 " + f, f <= 16 ? NONE : 16);
        }
        OneHinge x = check.told("put 0 17;put 0 3");
        due("the last one counts", x.room(0, 1), 3);
        check.tell(x, "put 0 0");
        due("none again", x.room(0, 1), 0);
    }

    private void doorThatIsThere() {
        check.sentence("door: one more at A (one that is there, a fourth: a FAULT at A)");
        check.faultAt("door 0;door 0", 12);
        check.faultAt("door 0;door 71;door 71", 20);
        check.faultAt("door 0;door 71;door 00", 20);
        check.faultAt("door 1;door 2;door 3;door 1", 26);
        OneHinge x = check.told("door 9");
        check.faultAt(x, "door 9", 5);
        check.faultAt(x, "door 8;door 10", NONE);
        check.faultAt(x, "door 8;door 10;door 11", 20);
        due("none of these was told", x.count(1), 1);
        for (int at = 0; at < 72; at++) {
            OneHinge y = check.told("house 3;leaf 2 25;door " + at);
            int open = at == 0 || at == 24 || at == 25 ? 0 : at < 24 ? 1 : 4;
            due("open by a door at " + at, y.count(4), open);
        }
    }

    private void sixthPersonAtItsWord() {
        check.sentence("person: a sixth cannot stand there (at its word)");
        String five = "person 0;person 1;person 2;person 3;person 0";
        check.faultAt(five, NONE);
        check.faultAt(five + ";person 0", 45);
        check.faultAt(five + "; person 0", 46);
        check.faultAt(five + ";person", 45);
        check.faultAt(five + ";person 4", 45);
        check.faultAt(five + ";person x", 45);
        check.faultAt(five + ";persons 0", 45);
        check.faultAt(five + ";empty;person 0", NONE);
        OneHinge x = check.told(five + ";door 1");
        check.faultAt(x, "person 0", 0);
        check.faultAt(x, "plain 0;person 0", 8);
        due("leave(0)", x.leave(0), 0);
        check.faultAt(x, "person 0", 0);
        check.faultAt(x, "house 4;person 0", NONE);
    }

    private void emptyMeansNobody() {
        check.sentence("empty: no PEOPLE");
        OneHinge x = check.told("empty");
        due("of none", x.count(2), 0);
        check.tell(x, "person 0;person 1");
        check.tell(x, "empty");
        due("of two", x.count(2), 0);
        due("person(0)", x.person(0), UNKNOWN);
        due("nobody is in room 0", x.room(0, 3), 0);
        due("nobody is out", x.count(5), 0);
        check.tell(x, "person 1;empty;person 3");
        due("they come from 0 anew", x.person(0), 3);
        due("one", x.count(2), 1);
    }

    private void houseIsAllElseAsAtFirst() {
        check.sentence("house: N LEAVES, all else as at first");
        OneHinge x = check.told("house 8;leaf 1 5;put 7 2;fixed 0;door 1;person 7");
        due("push(2, 0, 3)", x.push(2, ON, 3), 3);
        check.tell(x, "house 8");
        check.angles("house 8", x, FIRST_ANGLES[5]);
        for (int i = 0; i < 8; i++) {
            due("kind of " + i, x.leaf(i, 0), 0);
            due("home of " + i, x.leaf(i, 2), 9 * i);
            due("furniture of " + i, x.room(i, 1), 0);
            due("people of " + i, x.room(i, 3), 0);
        }
        due("doors", x.count(1), 0);
        due("people", x.count(2), 0);
        check.tell(x, "fixed 7;put 7 8;heavy 5;house 3;house 8");
        due("what was of a greater house", x.leaf(7, 0) + x.leaf(5, 0) + x.room(7, 1), 0);
    }

    private void numbersGoByTheLinesAhead() {
        check.sentence("LEAVES, ROOMS such as there are behind the LINES ahead");
        for (int n = 3; n <= 8; n++) {
            int home = 72 * (n - 1) / n;
            for (String word : new String[] {"plain", "sprung", "heavy", "fixed", "person"}) {
                check.faultAt("house " + n + ";" + word + " " + (n - 1), NONE);
                check.faultAt("house " + n + ";" + word + " " + n, 9 + word.length());
            }
            check.faultAt("house " + n + ";leaf " + (n - 1) + " " + home, NONE);
            check.faultAt("house " + n + ";leaf " + n + " 71", 13);
            check.faultAt("house " + n + ";put " + (n - 1) + " 1", NONE);
            check.faultAt("house " + n + ";put " + n + " 1", 12);
        }
        check.faultAt("person 3;house 3", NONE);
        check.faultAt("house 3;person 3", 15);
        check.faultAt("person 7;house 8", 7);
        check.faultAt("house 8;house 3;fixed 3", 22);
        check.faultAt("house 3;house 8;fixed 7", NONE);
        OneHinge x = check.told("house 8");
        check.faultAt(x, "person 7;house 3", NONE);
        check.faultAt(x, "house 3;person 7", 15);
        check.faultAt(x, "person 8", 7);
    }

    private void linesAreDoneInTheirOrder() {
        check.sentence("LINES are done in their order");
        OneHinge x = check.told("leaf 1 10;leaf 1 12;fixed 1;heavy 1;put 0 11;put 0 4;door 5;house 3;door 5");
        due("the house of the last line", x.count(0), 3);
        due("the door behind it alone", x.count(1), 1);
        due("plain again", x.leaf(1, 0), 0);
        OneHinge y = check.told("leaf 1 10;leaf 1 12;fixed 1;heavy 1;put 0 11;put 0 4");
        due("the last angle", y.leaf(1, 1), 12);
        due("the last kind", y.leaf(1, 0), 2);
        due("the last furniture", y.room(0, 1), 4);
        check.faultAt("put 0 17;leaf 1 10", 16);
        check.faultAt("leaf 1 10;put 0 17", 16);
        check.faultAt("leaf 1 30;put 0 20;leaf 1 21", NONE);
        check.faultAt("put 0 20;leaf 1 30", 6);
    }

    private void linesAreDoneAsAllWasTold() {
        check.sentence("LINES are done in their order, as all was told");
        OneHinge x = check.told("put 0 5;door 1;person 0");
        due("push(0, 0, 12)", x.push(0, ON, 12), 12);
        due("push(1, 0, 9)", x.push(1, ON, 9), 9);
        check.faultAt(x, "put 0 17", NONE);
        check.faultAt(x, "put 0 18", 6);
        check.faultAt(x, "put 3 18", 6);
        check.faultAt(x, "leaf 0 12", NONE);
        check.faultAt(x, "leaf 0 13", 7);
        check.faultAt(x, "leaf 3 71", NONE);
        check.faultAt(x, "leaf 3 0", 7);
        check.tell(x, "heavy 2");
        check.angles("pushes are undone", x, 0, 18, 36, 54);
        due("furniture stays as told", x.room(0, 1), 5);
        due("doors stay as told", x.count(1), 1);
        due("people stay as told", x.person(0), 0);
        check.tell(x, "person 2;door 2");
        due("kinds stay as told", x.leaf(2, 0), 2);
        due("one more", x.person(1), 2);
    }

    private void behindTheLines() {
        check.sentence("Behind them LEAVES, PEOPLE are as told, HOME of each LEAF is where it was told; nobody is OUT, "
                + "it is HOUR 0, nothing is SEEN, nothing is kept");
        OneHinge x = check.told("leaf 1 10;door 1;door 20;person 0;person 1");
        due("keep(0)", x.keep(0), 0);
        due("leave(0)", x.leave(0), 0);
        due("leave(1)", x.leave(1), 1);
        due("enter(1, 0)", x.enter(1, 0), 1);
        due("push(1, 0, 3)", x.push(1, ON, 3), 3);
        due("hours(9)", x.hours(9), 9);
        due("seen(1, 40)", x.seen(1, 40), 1);
        due("keep(1)", x.keep(1), 9);
        check.tell(x, "leaf 2 30");
        check.angles("as told", x, 0, 10, 30, 54);
        due("home of a leaf told just now", x.leaf(2, 2), 30);
        due("home of one told before", x.leaf(1, 2), 10);
        due("home of one never told", x.leaf(3, 2), 54);
        due("person(0)", x.person(0), 0);
        due("person(1)", x.person(1), 1);
        due("nobody is out", x.count(5), 0);
        due("it is hour 0", x.count(3), 0);
        due("nothing is seen", x.count(6), 0);
        due("forget()", x.forget(), 0);
        due("least(1)", x.least(1), 0);
        due("nothing is kept at 0", x.back(0), NOT);
        due("nothing is kept at 1", x.back(1), NOT);
        due("its text is empty", x.count(7), 0);
    }

    private void firstFaultCounts() {
        check.sentence("read to their first fault: the byte with which the TOKEN begins, or the length");
        check.faultAt("door 72;house 9", 5);
        check.faultAt("house 9;door 72", 6);
        check.faultAt("leaf 4 99", 5);
        check.faultAt("leaf 3 99", 7);
        check.faultAt("put 4 21", 4);
        check.faultAt("put 3 21 x", 6);
        check.faultAt("put 3 x 21", 6);
        check.faultAt("   nonsense 3", 3);
        check.faultAt("door    1234", 8);
        check.faultAt("door 1;   fixed    4;x", 19);
    }

    private void faultAndHouseOfNothing() {
        check.sentence("house: how many LINES there were, THE TEXT is empty then. NOT: it has a FAULT");
        OneHinge x = new OneHinge();
        due("fault() of no text", x.fault(), 0);
        due("house() of no text", x.house(), NOT);
        due("push(0, 0, 3)", x.push(0, ON, 3), 3);
        due("house() of no text", x.house(), NOT);
        due("it undoes no push", x.leaf(0, 1), 3);
        check.tell(x, "heavy 0");
        due("house() once more", x.house(), NOT);
        due("fault() behind it", x.fault(), 0);
        Check.write(x, "fixed ");
        due("a text that ends too soon", x.house(), NOT);
        due("it stays", x.write('0', 1), 7);
        due("and stands, when more is written", x.house(), 1);
        due("leaf(0, 0)", x.leaf(0, 0), 3);
    }

    private void faultsChangeNothing() {
        check.sentence("NOT: it has a FAULT; refused, and nothing changes");
        OneHinge x = new OneHinge();
        Check.write(x, "house 8;leaf 1 5;put 7 2;fixed 0;door 1;person 7;leaf 8 1");
        due("fault()", x.fault(), 54);
        due("fault() again", x.fault(), 54);
        due("house()", x.house(), NOT);
        check.angles("as they were", x, FIRST_ANGLES[1]);
        int[] counts = {4, 0, 0, 0, 0, 0, 0, 57};
        for (int what = 0; what < counts.length; what++) {
            due("count(" + what + ")", x.count(what), counts[what]);
        }
        due("leaf(0, 0)", x.leaf(0, 0), 0);
        due("erase()", x.erase(), 57);
        Check.write(x, "house 8;fixed 7");
        due("fault() of a text that stands", x.fault(), NONE);
        due("fault() does no line", x.count(0), 4);
        due("fault() again", x.fault(), NONE);
        due("house()", x.house(), 2);
    }
}
