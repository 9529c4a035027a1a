/** Twelve doors on one hinge: leaves on a post, rooms between them, and who can get out of them. */
public final class OneHinge {
    public static final int NONE = -1, UNKNOWN = -2, OUTSIDE = -3, NOT = -4, FULL = -5;

    private static final int STEPS = 72;
    private static final int FEWEST_LEAVES = 3, LEAVES_AT_FIRST = 4, MOST_LEAVES = 8;
    private static final int MOST_FURNITURE = 20, MOST_DOORS = 3, MOST_PEOPLE = 5;
    private static final int MOST_BYTES = 200, MOST_BYTES_A_CALL = 8, MOST_LINES = 12;
    private static final int MOST_HOURS = 9999, MOST_HOURS_A_CALL = 99, MOST_MINUTES = 200;
    private static final int MOST_KEPT = 2, MOST_ERRANDS = 5, MOST_SEEN = 8;

    private static final int ON = 0, BACK = 1;
    private static final int PLAIN = 0, SPRUNG = 1, HEAVY = 2, FIXED = 3;

    /** What a leaf of each kind can be taken as, by bits: leaf, plain, sprung, heavy, fixed. */
    private static final int[] TAKEN_AS = {0b00011, 0b00111, 0b01001, 0b11001};
    private static final int AS_PLAIN = 1, AS_FIXED = 4;

    private final Plan told = new Plan();
    private final Text text = new Text();
    private final House now = new House(told);
    private final House trial = new House(told);
    private final House[] kept = new House[MOST_KEPT];
    private final boolean[] isKept = new boolean[MOST_KEPT];
    private final Round round = new Round(told);
    private final Scrapes scrapes = new Scrapes();

    public OneHinge() {
        for (int k = 0; k < MOST_KEPT; k++) {
            kept[k] = new House(told);
        }
        told.begin(LEAVES_AT_FIRST);
        now.begin();
    }

    // ---- what is told

    public int write(long bytes, int n) {
        if (n < 1 || n > MOST_BYTES_A_CALL) {
            return OUTSIDE;
        }
        if (text.length + n > MOST_BYTES) {
            return FULL;
        }
        for (int i = 0; i < n; i++) {
            text.bytes[text.length] = (byte) (bytes >> 8 * i);
            text.length++;
        }
        return text.length;
    }

    public int erase() {
        int had = text.length;
        text.length = 0;
        return had;
    }

    public int fault() {
        return text.read(told);
    }

    public int house() {
        if (text.read(told) != NONE) {
            return NOT;
        }
        told.copy(text.draft);
        text.length = 0;
        now.begin();
        scrapes.many = 0;
        for (int k = 0; k < MOST_KEPT; k++) {
            isKept[k] = false;
        }
        return text.lines;
    }

    public int leaf(int leaf, int what) {
        if (!told.has(leaf)) {
            return UNKNOWN;
        }
        switch (what) {
            case 0:
                return told.kind[leaf];
            case 1:
                return now.angle[leaf];
            case 2:
                return told.home[leaf];
            default:
                return OUTSIDE;
        }
    }

    public int room(int room, int what) {
        if (!told.has(room)) {
            return UNKNOWN;
        }
        switch (what) {
            case 0:
                return now.width(room);
            case 1:
                return told.furniture[room];
            case 2:
                return now.isOpen(room) ? 1 : 0;
            case 3:
                return now.peopleAt(room);
            default:
                return OUTSIDE;
        }
    }

    public int as(int leaf, int kind) {
        if (!told.has(leaf)) {
            return UNKNOWN;
        }
        if (kind < 0 || kind > AS_FIXED) {
            return OUTSIDE;
        }
        if (!told.isTakenAs(leaf, kind)) {
            return NOT;
        }
        int on = now.movers(leaf, ON) > 0 ? 1 : 0;
        int back = now.movers(leaf, BACK) > 0 ? 2 : 0;
        return on + back;
    }

    public int person(int person) {
        return isPerson(person) ? now.place[person] : UNKNOWN;
    }

    // ---- pushes

    public int push(int leaf, int side, int d) {
        if (!told.has(leaf)) {
            return UNKNOWN;
        }
        if (!isSide(side) || d < 1 || d > STEPS) {
            return OUTSIDE;
        }
        int moved = 0;
        while (moved < d && now.step(leaf, side)) {
            moved++;
        }
        return moved;
    }

    public int hours(int n) {
        if (n < 1 || n > MOST_HOURS_A_CALL) {
            return OUTSIDE;
        }
        if (now.hour + n > MOST_HOURS) {
            return FULL;
        }
        for (int i = 0; i < n; i++) {
            now.passHour();
        }
        return now.hour;
    }

    public int leave(int person) {
        if (!isPerson(person)) {
            return UNKNOWN;
        }
        int place = now.place[person];
        if (place == NONE || !now.isOpen(place)) {
            return NOT;
        }
        now.place[person] = NONE;
        return place;
    }

    public int enter(int person, int room) {
        if (!isPerson(person) || !told.has(room)) {
            return UNKNOWN;
        }
        if (now.place[person] != NONE || !now.isOpen(room)) {
            return NOT;
        }
        now.place[person] = room;
        return Integer.bitCount(now.peopleAt(room));
    }

    public int keep(int k) {
        if (k < 0 || k >= MOST_KEPT) {
            return UNKNOWN;
        }
        kept[k].copy(now);
        isKept[k] = true;
        return now.hour;
    }

    public int back(int k) {
        if (k < 0 || k >= MOST_KEPT) {
            return UNKNOWN;
        }
        if (!isKept[k]) {
            return NOT;
        }
        now.copy(kept[k]);
        return now.hour;
    }

    // ---- foretold

    public int turn(int leaf, int side, int room) {
        if (!told.has(leaf) || !told.has(room)) {
            return UNKNOWN;
        }
        if (!isSide(side)) {
            return OUTSIDE;
        }
        trial.copy(now);
        return trial.goTillOpen(leaf, side, room, STEPS);
    }

    public int best(int room, int what) {
        if (!told.has(room)) {
            return UNKNOWN;
        }
        if (what < 0 || what > 2) {
            return OUTSIDE;
        }
        int steps = NONE;
        int bestLeaf = NONE;
        int bestSide = NONE;
        // Only fewer steps than the best so far count, so that of like ones the first stays.
        int most = STEPS;
        for (int leaf = 0; leaf < told.leaves; leaf++) {
            for (int side = ON; side <= BACK; side++) {
                trial.copy(now);
                int turn = trial.goTillOpen(leaf, side, room, most);
                if (turn != NONE) {
                    steps = turn;
                    bestLeaf = leaf;
                    bestSide = side;
                    most = turn - 1;
                }
            }
        }
        return what == 0 ? steps : what == 1 ? bestLeaf : bestSide;
    }

    public int widest(int room) {
        return told.has(room) ? now.stretched(room) : UNKNOWN;
    }

    public int further(int what) {
        if (what < 0 || what > 1) {
            return OUTSIDE;
        }
        int at = 0;
        int half = NONE;
        for (int room = 0; room < told.leaves; room++) {
            int lesser = now.width(room) / 2;
            if (lesser > half) {
                at = room;
                half = lesser;
            }
        }
        return what == 0 ? at : half;
    }

    public int share(int room, int part) {
        if (!told.has(room)) {
            return UNKNOWN;
        }
        if (part < 0 || part > 1) {
            return OUTSIDE;
        }
        int width = now.width(room);
        int asked = part == 0 ? width : STEPS;
        for (int divisor = width; divisor > 1; divisor--) {
            if (width % divisor == 0 && STEPS % divisor == 0) {
                return asked / divisor;
            }
        }
        return asked;
    }

    public int errands(int rooms, int leaf, int i) {
        if (!told.has(leaf) || rooms >>> told.leaves != 0) {
            return UNKNOWN;
        }
        if (i < NONE) {
            return OUTSIDE;
        }
        int many = Integer.bitCount(rooms);
        if (many > MOST_ERRANDS) {
            return NOT;
        }
        round.begin(now, leaf);
        round.visit(0, rooms, 0);
        if (round.fewest > MOST_ERRANDS * STEPS) {
            return NONE;
        }
        if (i == NONE) {
            return round.fewest;
        }
        return i < many ? round.bestOrder[i] : NONE;
    }

    public int slam(int leaf, int side, int what) {
        if (!told.has(leaf)) {
            return UNKNOWN;
        }
        if (!isSide(side) || what < 0 || what > 1) {
            return OUTSIDE;
        }
        if (told.kind[leaf] == FIXED) {
            return NOT;
        }
        return what == 0 ? now.slack(told.roomBeside(leaf, side)) : told.leafBeside(leaf, side);
    }

    public int fire(int leaf, int side) {
        if (!told.has(leaf)) {
            return UNKNOWN;
        }
        if (!isSide(side)) {
            return OUTSIDE;
        }
        trial.copy(now);
        for (int minutes = 0; minutes <= MOST_MINUTES; minutes++) {
            if (trial.areAllOut()) {
                return minutes;
            }
            trial.letOut();
            trial.step(leaf, side);
        }
        return NONE;
    }

    // ---- scrapes

    public int seen(int leaf, int angle) {
        if (!told.has(leaf)) {
            return UNKNOWN;
        }
        if (angle < 0 || angle >= STEPS) {
            return OUTSIDE;
        }
        if (scrapes.many >= MOST_SEEN) {
            return FULL;
        }
        scrapes.leafOf[scrapes.many] = leaf;
        scrapes.angleOf[scrapes.many] = angle;
        scrapes.many++;
        return scrapes.many;
    }

    public int forget() {
        int had = scrapes.many;
        scrapes.many = 0;
        return had;
    }

    public int least(int leaf) {
        return told.has(leaf) ? scrapes.way(leaf, told.home[leaf], now.angle[leaf]) : UNKNOWN;
    }

    public int count(int what) {
        switch (what) {
            case 0:
                return told.leaves;
            case 1:
                return told.doors;
            case 2:
                return told.people;
            case 3:
                return now.hour;
            case 4:
                return now.openRooms();
            case 5:
                return now.peopleAt(NONE);
            case 6:
                return scrapes.many;
            case 7:
                return text.length;
            default:
                return OUTSIDE;
        }
    }

    private boolean isPerson(int person) {
        return person >= 0 && person < told.people;
    }

    private static boolean isSide(int side) {
        return side == ON || side == BACK;
    }

    /** How many steps it is from one angle on to another. */
    private static int between(int from, int to) {
        return to >= from ? to - from : to - from + STEPS;
    }

    /** A house as it was told: what texts change and pushes do not. */
    private static final class Plan {
        int leaves;
        final int[] home = new int[MOST_LEAVES];
        final int[] kind = new int[MOST_LEAVES];
        final int[] furniture = new int[MOST_LEAVES];
        int doors;
        final int[] door = new int[MOST_DOORS];
        int people;
        final int[] place = new int[MOST_PEOPLE];

        void begin(int n) {
            leaves = n;
            for (int i = 0; i < leaves; i++) {
                home[i] = STEPS * i / leaves;
                kind[i] = PLAIN;
                furniture[i] = 0;
            }
            doors = 0;
            people = 0;
        }

        void copy(Plan other) {
            leaves = other.leaves;
            System.arraycopy(other.home, 0, home, 0, MOST_LEAVES);
            System.arraycopy(other.kind, 0, kind, 0, MOST_LEAVES);
            System.arraycopy(other.furniture, 0, furniture, 0, MOST_LEAVES);
            doors = other.doors;
            System.arraycopy(other.door, 0, door, 0, MOST_DOORS);
            people = other.people;
            System.arraycopy(other.place, 0, place, 0, MOST_PEOPLE);
        }

        /** Leaves and rooms bear the same numbers, so this serves for both. */
        boolean has(int number) {
            return number >= 0 && number < leaves;
        }

        int next(int number) {
            return number + 1 < leaves ? number + 1 : 0;
        }

        int before(int number) {
            return number > 0 ? number - 1 : leaves - 1;
        }

        int leafBeside(int leaf, int side) {
            return side == ON ? next(leaf) : before(leaf);
        }

        int roomBeside(int leaf, int side) {
            return side == ON ? leaf : before(leaf);
        }

        int need(int room) {
            return furniture[room] + 1;
        }

        boolean isTakenAs(int leaf, int sort) {
            return (TAKEN_AS[kind[leaf]] >> sort & 1) == 1;
        }

        int toldWidth(int room) {
            return between(home[room], home[next(room)]);
        }

        boolean canStandAt(int leaf, int angle) {
            int before = before(leaf);
            int both = toldWidth(before) + toldWidth(leaf);
            int width = between(home[before], angle);
            return width >= need(before) && both - width >= need(leaf);
        }

        boolean hasDoorAt(int angle) {
            for (int i = 0; i < doors; i++) {
                if (door[i] == angle) {
                    return true;
                }
            }
            return false;
        }
    }

    /** THE TEXT, read to its first fault on a draft, so that what was told stays till all of it stands. */
    private static final class Text {
        private static final int HOUSE = 0, LEAF = 1, KINDS = 2, PUT = 6, DOOR = 7, PERSON = 8, EMPTY = 9;

        final byte[] bytes = new byte[MOST_BYTES];
        int length;
        final Plan draft = new Plan();
        int lines;
        private int start;
        private int end;
        private int number;

        /** The place of the fault, or NONE. */
        int read(Plan told) {
            draft.copy(told);
            end = 0;
            for (lines = 1; lines <= MOST_LINES; lines++) {
                if (!readLine()) {
                    return start;
                }
                nextToken();
                if (start == length) {
                    return NONE;
                }
                if (bytes[start] != ';') {
                    return start;
                }
            }
            // The ; behind the last line that there may be cannot stand.
            return start;
        }

        /** Each reading below answers whether it stands; if not, the fault is at the token read last. */
        private boolean readLine() {
            nextToken();
            int word = wordHere();
            switch (word) {
                case NONE:
                    return false;
                case HOUSE:
                    return readHouse();
                case LEAF:
                    return readLeaf();
                case PUT:
                    return readPut();
                case DOOR:
                    return readDoor();
                case PERSON:
                    return readPerson();
                case EMPTY:
                    draft.people = 0;
                    return true;
                default:
                    return readKind(word - KINDS);
            }
        }

        private boolean readHouse() {
            if (!readNumber(FEWEST_LEAVES, MOST_LEAVES)) {
                return false;
            }
            draft.begin(number);
            return true;
        }

        private boolean readLeaf() {
            if (!readNumber(0, draft.leaves - 1)) {
                return false;
            }
            int leaf = number;
            if (!readNumber(0, STEPS - 1) || !draft.canStandAt(leaf, number)) {
                return false;
            }
            draft.home[leaf] = number;
            return true;
        }

        private boolean readKind(int kind) {
            if (!readNumber(0, draft.leaves - 1)) {
                return false;
            }
            draft.kind[number] = kind;
            return true;
        }

        private boolean readPut() {
            if (!readNumber(0, draft.leaves - 1)) {
                return false;
            }
            int room = number;
            if (!readNumber(0, MOST_FURNITURE) || number + 1 > draft.toldWidth(room)) {
                return false;
            }
            draft.furniture[room] = number;
            return true;
        }

        private boolean readDoor() {
            if (!readNumber(0, STEPS - 1) || draft.hasDoorAt(number) || draft.doors >= MOST_DOORS) {
                return false;
            }
            draft.door[draft.doors] = number;
            draft.doors++;
            return true;
        }

        private boolean readPerson() {
            if (draft.people >= MOST_PEOPLE || !readNumber(0, draft.leaves - 1)) {
                return false;
            }
            draft.place[draft.people] = number;
            draft.people++;
            return true;
        }

        private boolean readNumber(int least, int most) {
            nextToken();
            number = numberHere();
            return number >= least && number <= most;
        }

        private void nextToken() {
            start = end;
            while (start < length && bytes[start] == ' ') {
                start++;
            }
            end = start;
            while (end < length && isLetter(end)) {
                end++;
            }
            if (end == start) {
                while (end < length && isDigit(end)) {
                    end++;
                }
            }
            if (end == start && end < length) {
                end++;
            }
        }

        private boolean isLetter(int at) {
            return bytes[at] >= 'a' && bytes[at] <= 'z';
        }

        private boolean isDigit(int at) {
            return bytes[at] >= '0' && bytes[at] <= '9';
        }

        /** NONE, if the token is no number of one or two digits. */
        private int numberHere() {
            if (end == start || end > start + 2 || !isDigit(start)) {
                return NONE;
            }
            int value = 0;
            for (int at = start; at < end; at++) {
                value = value * 10 + bytes[at] - '0';
            }
            return value;
        }

        private int wordHere() {
            for (int word = HOUSE; word <= EMPTY; word++) {
                if (isHere(spelling(word))) {
                    return word;
                }
            }
            return NONE;
        }

        private boolean isHere(String word) {
            if (end - start != word.length()) {
                return false;
            }
            for (int i = 0; i < word.length(); i++) {
                if (bytes[start + i] != word.charAt(i)) {
                    return false;
                }
            }
            return true;
        }

        private static String spelling(int word) {
            switch (word) {
                case HOUSE:
                    return "house";
                case LEAF:
                    return "leaf";
                case KINDS + PLAIN:
                    return "plain";
                case KINDS + SPRUNG:
                    return "sprung";
                case KINDS + HEAVY:
                    return "heavy";
                case KINDS + FIXED:
                    return "fixed";
                case PUT:
                    return "put";
                case DOOR:
                    return "door";
                case PERSON:
                    return "person";
                default:
                    return "empty";
            }
        }
    }

    /** A house as it stands at some time: now, as kept, or as foretold. */
    private static final class House {
        private final Plan plan;
        final int[] angle = new int[MOST_LEAVES];
        final int[] place = new int[MOST_PEOPLE];
        int hour;

        House(Plan plan) {
            this.plan = plan;
        }

        void begin() {
            System.arraycopy(plan.home, 0, angle, 0, MOST_LEAVES);
            System.arraycopy(plan.place, 0, place, 0, MOST_PEOPLE);
            hour = 0;
        }

        void copy(House other) {
            System.arraycopy(other.angle, 0, angle, 0, MOST_LEAVES);
            System.arraycopy(other.place, 0, place, 0, MOST_PEOPLE);
            hour = other.hour;
        }

        int width(int room) {
            return between(angle[room], angle[plan.next(room)]);
        }

        int slack(int room) {
            return width(room) - plan.need(room);
        }

        boolean isOpen(int room) {
            int width = width(room);
            for (int i = 0; i < plan.doors; i++) {
                int at = between(angle[room], plan.door[i]);
                if (at > 0 && at < width) {
                    return true;
                }
            }
            return false;
        }

        int openRooms() {
            int rooms = 0;
            for (int room = 0; room < plan.leaves; room++) {
                if (isOpen(room)) {
                    rooms |= 1 << room;
                }
            }
            return rooms;
        }

        /** By bits; at NONE are those that are out. */
        int peopleAt(int room) {
            int people = 0;
            for (int person = 0; person < plan.people; person++) {
                if (place[person] == room) {
                    people |= 1 << person;
                }
            }
            return people;
        }

        boolean areAllOut() {
            for (int person = 0; person < plan.people; person++) {
                if (place[person] != NONE) {
                    return false;
                }
            }
            return true;
        }

        void letOut() {
            for (int room = 0; room < plan.leaves; room++) {
                if (isOpen(room)) {
                    letFirstOut(room);
                }
            }
        }

        private void letFirstOut(int room) {
            for (int person = 0; person < plan.people; person++) {
                if (place[person] == room) {
                    place[person] = NONE;
                    return;
                }
            }
        }

        /** How many leaves a step of this one moves, itself and those that it carries; 0, if it cannot. */
        int movers(int leaf, int side) {
            if (plan.kind[leaf] == FIXED) {
                return 0;
            }
            int last = leaf;
            for (int many = 1; many < plan.leaves; many++) {
                int room = plan.roomBeside(last, side);
                if (width(room) > plan.need(room)) {
                    return many;
                }
                last = plan.leafBeside(last, side);
                if (!plan.isTakenAs(last, AS_PLAIN)) {
                    return 0;
                }
            }
            // The last room is then between two leaves that both move: its width does not matter.
            return plan.leaves;
        }

        boolean step(int leaf, int side) {
            int many = movers(leaf, side);
            int moved = leaf;
            for (int i = 0; i < many; i++) {
                angle[moved] = stepped(angle[moved], side);
                moved = plan.leafBeside(moved, side);
            }
            return many > 0;
        }

        private static int stepped(int angle, int side) {
            if (side == ON) {
                return angle + 1 < STEPS ? angle + 1 : 0;
            }
            return angle > 0 ? angle - 1 : STEPS - 1;
        }

        /** Pushes the leaf till the room is open: by how many steps, or NONE, if not by so many. */
        int goTillOpen(int leaf, int side, int room, int most) {
            for (int steps = 0; steps <= most; steps++) {
                if (isOpen(room)) {
                    return steps;
                }
                if (!step(leaf, side)) {
                    return NONE;
                }
            }
            return NONE;
        }

        void passHour() {
            for (int leaf = 0; leaf < plan.leaves; leaf++) {
                if (plan.kind[leaf] == SPRUNG && angle[leaf] != plan.home[leaf]) {
                    int on = between(angle[leaf], plan.home[leaf]);
                    step(leaf, on <= STEPS - on ? ON : BACK);
                }
            }
            hour++;
        }

        /** The room's width, if all slack that no fixed leaf keeps from it is given to it. */
        int stretched(int room) {
            int width = width(room);
            int others = 0;
            for (int side = ON; side <= BACK; side++) {
                int leaf = side == ON ? plan.next(room) : room;
                while (others < plan.leaves - 1 && plan.kind[leaf] != FIXED) {
                    width += slack(plan.roomBeside(leaf, side));
                    leaf = plan.leafBeside(leaf, side);
                    others++;
                }
            }
            return width;
        }
    }

    /** A day's errands: orders of rooms are tried by numbers, so that of like ones the first stays. */
    private static final class Round {
        private final Plan plan;
        private final House[] behind = new House[MOST_ERRANDS + 1];
        private final House pushedBack;
        private final int[] order = new int[MOST_ERRANDS];
        final int[] bestOrder = new int[MOST_ERRANDS];
        private int leaf;
        int fewest;

        Round(Plan plan) {
            this.plan = plan;
            pushedBack = new House(plan);
            for (int i = 0; i <= MOST_ERRANDS; i++) {
                behind[i] = new House(plan);
            }
        }

        /** More steps than any order takes stand for none. */
        void begin(House now, int byLeaf) {
            leaf = byLeaf;
            fewest = MOST_ERRANDS * STEPS + 1;
            behind[0].copy(now);
        }

        private void visit(int done, int rooms, int spent) {
            if (rooms == 0) {
                fewest = spent;
                System.arraycopy(order, 0, bestOrder, 0, MOST_ERRANDS);
                return;
            }
            if (done >= MOST_ERRANDS) {
                return;
            }
            for (int room = 0; room < plan.leaves; room++) {
                if ((rooms >> room & 1) == 1) {
                    int steps = goTo(room, done, fewest - spent - 1);
                    if (steps != NONE) {
                        order[done] = room;
                        visit(done + 1, rooms & ~(1 << room), spent + steps);
                    }
                }
            }
        }

        /** The errand's steps; NONE, if it cannot be done, or not by so few that the order could be the best. */
        private int goTo(int room, int done, int most) {
            int limit = Math.min(most, STEPS);
            House there = behind[done + 1];
            there.copy(behind[done]);
            int on = there.goTillOpen(leaf, ON, room, limit);
            pushedBack.copy(behind[done]);
            int back = pushedBack.goTillOpen(leaf, BACK, room, on == NONE ? limit : on - 1);
            if (back == NONE) {
                return on;
            }
            there.copy(pushedBack);
            return back;
        }
    }

    /** What was seen on the floor. */
    private static final class Scrapes {
        final int[] leafOf = new int[MOST_SEEN];
        final int[] angleOf = new int[MOST_SEEN];
        int many;

        int way(int leaf, int from, int to) {
            int steps = 0;
            int at = from;
            for (int i = 0; i < many; i++) {
                if (leafOf[i] == leaf) {
                    steps += shorter(at, angleOf[i]);
                    at = angleOf[i];
                }
            }
            return steps + shorter(at, to);
        }

        private static int shorter(int from, int to) {
            int on = between(from, to);
            return Math.min(on, STEPS - on);
        }
    }
}
