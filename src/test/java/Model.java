import java.util.ArrayList;
import java.util.Arrays;
import java.util.List;
import java.util.regex.Matcher;
import java.util.regex.Pattern;

/**
 * The document once more, in its plainest form and by other ways than the program's: every foretelling is a
 * pushing of copies from the start, orders are all listed, the widest room is a longest path.
 */
final class Model {
    private static final int NONE = -1, UNKNOWN = -2, OUTSIDE = -3, NOT = -4, FULL = -5;
    private static final List<String> KINDS = List.of("plain", "sprung", "heavy", "fixed");
    private static final Pattern TOKEN = Pattern.compile("[a-z]+|[0-9]+|[^ ]", Pattern.DOTALL);

    /** All that a text tells. */
    private static final class Told {
        List<Integer> homes = new ArrayList<>();
        List<String> kinds = new ArrayList<>();
        List<Integer> needs = new ArrayList<>();
        List<Integer> doors = new ArrayList<>();
        List<Integer> people = new ArrayList<>();

        Told(int n) {
            for (int i = 0; i < n; i++) {
                homes.add((int) Math.floor(72.0 * i / n));
                kinds.add("plain");
                needs.add(1);
            }
        }

        Told(Told other) {
            homes = new ArrayList<>(other.homes);
            kinds = new ArrayList<>(other.kinds);
            needs = new ArrayList<>(other.needs);
            doors = new ArrayList<>(other.doors);
            people = new ArrayList<>(other.people);
        }

        /** Rooms as they would be with these angles: none below its need, and all of them once round. */
        boolean stands(List<Integer> angles) {
            int sum = 0;
            for (int i = 0; i < angles.size(); i++) {
                int width = Math.floorMod(angles.get((i + 1) % angles.size()) - angles.get(i), 72);
                if (width < needs.get(i)) {
                    return false;
                }
                sum += width;
            }
            return sum == 72;
        }
    }

    private Told told = new Told(4);
    private String text = "";
    private int[] at = angles(told);
    private List<Integer> where = new ArrayList<>();
    private int hours = 0;
    private final List<int[]> seen = new ArrayList<>();
    private final int[][] keptAngles = new int[2][];
    private final List<List<Integer>> keptPeople = new ArrayList<>(Arrays.asList(null, null));
    private final int[] keptHours = new int[2];
    private int linesRead;
    private Told read;

    private static int[] angles(Told told) {
        return told.homes.stream().mapToInt(Integer::intValue).toArray();
    }

    private int n() {
        return told.homes.size();
    }

    private boolean has(int number) {
        return number >= 0 && number < n();
    }

    // ---- what is told

    int write(long bytes, int n) {
        if (n < 1 || n > 8) {
            return OUTSIDE;
        }
        if (text.length() + n > 200) {
            return FULL;
        }
        for (int i = 0; i < n; i++) {
            text += (char) (bytes >> 8 * i & 255);
        }
        return text.length();
    }

    int erase() {
        int had = text.length();
        text = "";
        return had;
    }

    int fault() {
        List<String> tokens = new ArrayList<>();
        List<Integer> places = new ArrayList<>();
        Matcher matcher = TOKEN.matcher(text);
        while (matcher.find()) {
            tokens.add(matcher.group());
            places.add(matcher.start());
        }
        tokens.add("");
        places.add(text.length());
        read = new Told(told);
        linesRead = 0;
        int token = 0;
        while (true) {
            int good = lineTokens(tokens, token);
            if (good < 0) {
                return places.get(token + -good - 1);
            }
            token += good;
            linesRead++;
            if (tokens.get(token).isEmpty()) {
                return NONE;
            }
            if (!tokens.get(token).equals(";") || linesRead == 12) {
                return places.get(token);
            }
            token++;
        }
    }

    /** How many tokens the line has; below 0: -1 less how many of them stand ahead of the fault. */
    private int lineTokens(List<String> tokens, int from) {
        String word = tokens.get(from);
        boolean known = KINDS.contains(word) || List.of("house", "leaf", "put", "door", "person", "empty").contains(word);
        if (!known || word.equals("person") && read.people.size() == 5) {
            return -1;
        }
        if (word.equals("empty")) {
            read.people.clear();
            return 1;
        }
        boolean two = word.equals("leaf") || word.equals("put");
        int first = number(tokens.get(from + 1));
        boolean firstStands = switch (word) {
            case "house" -> first >= 3 && first <= 8;
            case "door" -> first >= 0 && first < 72 && !read.doors.contains(first) && read.doors.size() < 3;
            default -> first >= 0 && first < read.homes.size();
        };
        if (!firstStands) {
            return -2;
        }
        int second = two ? number(tokens.get(from + 2)) : 0;
        Told tried = word.equals("house") ? new Told(first) : new Told(read);
        switch (word) {
            case "house" -> { }
            case "door" -> tried.doors.add(first);
            case "person" -> tried.people.add(first);
            case "leaf" -> tried.homes.set(first, second);
            case "put" -> tried.needs.set(first, second + 1);
            default -> tried.kinds.set(first, word);
        }
        if (second < 0 || second > (word.equals("put") ? 20 : 71) || !tried.stands(tried.homes)) {
            return -3;
        }
        read = tried;
        return two ? 3 : 2;
    }

    private static int number(String token) {
        return token.matches("[0-9]{1,2}") ? Integer.parseInt(token) : NONE;
    }

    int house() {
        if (fault() != NONE) {
            return NOT;
        }
        told = read;
        text = "";
        at = angles(told);
        where = new ArrayList<>(told.people);
        hours = 0;
        seen.clear();
        Arrays.fill(keptAngles, null);
        return linesRead;
    }

    int leaf(int leaf, int what) {
        if (!has(leaf)) {
            return UNKNOWN;
        }
        if (what < 0 || what > 2) {
            return OUTSIDE;
        }
        return what == 0 ? KINDS.indexOf(told.kinds.get(leaf)) : what == 1 ? at[leaf] : told.homes.get(leaf);
    }

    int room(int room, int what) {
        if (!has(room)) {
            return UNKNOWN;
        }
        return switch (what) {
            case 0 -> width(at, room);
            case 1 -> told.needs.get(room) - 1;
            case 2 -> open(at, room) ? 1 : 0;
            case 3 -> bits(room);
            default -> OUTSIDE;
        };
    }

    private int bits(int place) {
        int bits = 0;
        for (int i = 0; i < where.size(); i++) {
            bits += where.get(i) == place ? 1 << i : 0;
        }
        return bits;
    }

    private int width(int[] angles, int room) {
        int width = 0;
        for (int step = angles[room]; step != angles[(room + 1) % n()]; step = (step + 1) % 72) {
            width++;
        }
        return width;
    }

    private boolean open(int[] angles, int room) {
        for (int i = 1; i < width(angles, room); i++) {
            if (told.doors.contains((angles[room] + i) % 72)) {
                return true;
            }
        }
        return false;
    }

    int as(int leaf, int kind) {
        if (!has(leaf)) {
            return UNKNOWN;
        }
        if (kind < 0 || kind > 4) {
            return OUTSIDE;
        }
        List<Integer> over = switch (told.kinds.get(leaf)) {
            case "plain" -> List.of(0, 1);
            case "sprung" -> List.of(0, 1, 2);
            case "heavy" -> List.of(0, 3);
            default -> List.of(0, 3, 4);
        };
        if (!over.contains(kind)) {
            return NOT;
        }
        return (pushed(at.clone(), leaf, 0, 1) > 0 ? 1 : 0) + (pushed(at.clone(), leaf, 1, 1) > 0 ? 2 : 0);
    }

    int person(int person) {
        return person >= 0 && person < where.size() ? where.get(person) : UNKNOWN;
    }

    // ---- pushes

    /** Who would move, from the pushed leaf on; null, if one of them cannot. */
    private List<Integer> movers(int[] angles, int leaf, int side, List<Integer> ahead) {
        if (told.kinds.get(leaf).equals("fixed")) {
            return null;
        }
        List<Integer> all = new ArrayList<>(ahead);
        all.add(leaf);
        int room = side == 0 ? leaf : (leaf + n() - 1) % n();
        int other = side == 0 ? (leaf + 1) % n() : (leaf + n() - 1) % n();
        if (width(angles, room) > told.needs.get(room) || all.contains(other)) {
            return all;
        }
        return told.kinds.get(other).equals("heavy") ? null : movers(angles, other, side, all);
    }

    private int pushed(int[] angles, int leaf, int side, int d) {
        int moved = 0;
        for (int i = 0; i < d; i++) {
            List<Integer> all = movers(angles, leaf, side, List.of());
            if (all != null) {
                moved++;
                for (int one : all) {
                    angles[one] = Math.floorMod(angles[one] + (side == 0 ? 1 : -1), 72);
                }
            }
        }
        return moved;
    }

    int push(int leaf, int side, int d) {
        if (!has(leaf)) {
            return UNKNOWN;
        }
        return side < 0 || side > 1 || d < 1 || d > 72 ? OUTSIDE : pushed(at, leaf, side, d);
    }

    int hours(int n) {
        if (n < 1 || n > 99) {
            return OUTSIDE;
        }
        if (hours + n > 9999) {
            return FULL;
        }
        for (int i = 0; i < n; i++) {
            for (int leaf = 0; leaf < n(); leaf++) {
                int on = Math.floorMod(told.homes.get(leaf) - at[leaf], 72);
                if (told.kinds.get(leaf).equals("sprung") && on != 0) {
                    pushed(at, leaf, on > 36 ? 1 : 0, 1);
                }
            }
        }
        hours += n;
        return hours;
    }

    int leave(int person) {
        if (person < 0 || person >= where.size()) {
            return UNKNOWN;
        }
        int room = where.get(person);
        if (room == NONE || !open(at, room)) {
            return NOT;
        }
        where.set(person, NONE);
        return room;
    }

    int enter(int person, int room) {
        if (person < 0 || person >= where.size() || !has(room)) {
            return UNKNOWN;
        }
        if (where.get(person) != NONE || !open(at, room)) {
            return NOT;
        }
        where.set(person, room);
        return Integer.bitCount(bits(room));
    }

    int keep(int k) {
        if (k != 0 && k != 1) {
            return UNKNOWN;
        }
        keptAngles[k] = at.clone();
        keptPeople.set(k, new ArrayList<>(where));
        keptHours[k] = hours;
        return hours;
    }

    int back(int k) {
        if (k != 0 && k != 1) {
            return UNKNOWN;
        }
        if (keptAngles[k] == null) {
            return NOT;
        }
        at = keptAngles[k].clone();
        where = new ArrayList<>(keptPeople.get(k));
        hours = keptHours[k];
        return hours;
    }

    // ---- foretold

    private int turned(int[] angles, int leaf, int side, int room) {
        int[] moved = angles.clone();
        for (int d = 0; d <= 72; d++) {
            if (open(moved, room)) {
                return d;
            }
            pushed(moved, leaf, side, 1);
        }
        return NONE;
    }

    int turn(int leaf, int side, int room) {
        if (!has(leaf) || !has(room)) {
            return UNKNOWN;
        }
        return side < 0 || side > 1 ? OUTSIDE : turned(at, leaf, side, room);
    }

    int best(int room, int what) {
        if (!has(room)) {
            return UNKNOWN;
        }
        if (what < 0 || what > 2) {
            return OUTSIDE;
        }
        int[] best = null;
        for (int leaf = n() - 1; leaf >= 0; leaf--) {
            for (int side = 1; side >= 0; side--) {
                int turn = turned(at, leaf, side, room);
                if (turn != NONE && (best == null || turn <= best[0])) {
                    best = new int[] {turn, leaf, side};
                }
            }
        }
        return best == null ? NONE : best[what];
    }

    /** 72 less the least way from the room's second leaf round to its first one. */
    int widest(int room) {
        if (!has(room)) {
            return UNKNOWN;
        }
        int[] least = new int[n()];
        for (int i = 1; i < n(); i++) {
            int leaf = (room + 1 + i) % n();
            least[i] = least[i - 1] + told.needs.get((room + i) % n());
            for (int j = 0; j < i; j++) {
                int other = (room + 1 + j) % n();
                if (told.kinds.get(leaf).equals("fixed") && told.kinds.get(other).equals("fixed")) {
                    least[i] = Math.max(least[i], least[j] + Math.floorMod(at[leaf] - at[other], 72));
                }
            }
        }
        return 72 - least[n() - 1];
    }

    int further(int what) {
        if (what < 0 || what > 1) {
            return OUTSIDE;
        }
        int best = n() - 1;
        for (int room = n() - 1; room >= 0; room--) {
            best = width(at, room) / 2 >= width(at, best) / 2 ? room : best;
        }
        return what == 0 ? best : width(at, best) / 2;
    }

    int share(int room, int part) {
        if (!has(room)) {
            return UNKNOWN;
        }
        if (part < 0 || part > 1) {
            return OUTSIDE;
        }
        int a = width(at, room);
        int b = 72;
        while (b != 0) {
            int rest = a % b;
            a = b;
            b = rest;
        }
        return (part == 0 ? width(at, room) : 72) / a;
    }

    int errands(int rooms, int leaf, int i) {
        if (!has(leaf) || rooms < 0 || rooms >= 1 << n()) {
            return UNKNOWN;
        }
        if (i < NONE) {
            return OUTSIDE;
        }
        List<Integer> set = new ArrayList<>();
        for (int room = 0; room < n(); room++) {
            if ((rooms & 1 << room) != 0) {
                set.add(room);
            }
        }
        if (set.size() > 5) {
            return NOT;
        }
        List<List<Integer>> orders = new ArrayList<>();
        list(set, List.of(), orders);
        int fewest = NONE;
        List<Integer> best = List.of();
        for (List<Integer> order : orders) {
            int steps = stepsOf(order, leaf);
            if (steps != NONE && (fewest == NONE || steps < fewest)) {
                fewest = steps;
                best = order;
            }
        }
        return i == NONE ? fewest : i < best.size() ? best.get(i) : NONE;
    }

    private static void list(List<Integer> left, List<Integer> ahead, List<List<Integer>> orders) {
        if (left.isEmpty()) {
            orders.add(ahead);
        }
        for (Integer room : left) {
            List<Integer> others = new ArrayList<>(left);
            others.remove(room);
            List<Integer> order = new ArrayList<>(ahead);
            order.add(room);
            list(others, order, orders);
        }
    }

    private int stepsOf(List<Integer> order, int leaf) {
        int[] angles = at.clone();
        int steps = 0;
        for (int room : order) {
            int on = turned(angles, leaf, 0, room);
            int back = turned(angles, leaf, 1, room);
            if (on == NONE && back == NONE) {
                return NONE;
            }
            boolean goesOn = back == NONE || on != NONE && on <= back;
            int d = goesOn ? on : back;
            pushed(angles, leaf, goesOn ? 0 : 1, d);
            steps += d;
        }
        return steps;
    }

    int slam(int leaf, int side, int what) {
        if (!has(leaf)) {
            return UNKNOWN;
        }
        if (side < 0 || side > 1 || what < 0 || what > 1) {
            return OUTSIDE;
        }
        if (told.kinds.get(leaf).equals("fixed")) {
            return NOT;
        }
        int other = (leaf + (side == 0 ? 1 : n() - 1)) % n();
        if (what == 1) {
            return other;
        }
        int[] angles = at.clone();
        int steps = 0;
        List<Integer> all = movers(angles, leaf, side, List.of());
        while (all != null && all.size() == 1) {
            pushed(angles, leaf, side, 1);
            steps++;
            all = movers(angles, leaf, side, List.of());
        }
        return steps;
    }

    int fire(int leaf, int side) {
        if (!has(leaf)) {
            return UNKNOWN;
        }
        if (side < 0 || side > 1) {
            return OUTSIDE;
        }
        int[] angles = at.clone();
        List<Integer> people = new ArrayList<>(where);
        for (int minute = 1; minute <= 200; minute++) {
            if (people.stream().allMatch(place -> place == NONE)) {
                return minute - 1;
            }
            for (int room = 0; room < n(); room++) {
                int first = people.indexOf(room);
                if (first >= 0 && open(angles, room)) {
                    people.set(first, NONE);
                }
            }
            pushed(angles, leaf, side, 1);
        }
        return people.stream().allMatch(place -> place == NONE) ? 200 : NONE;
    }

    // ---- scrapes

    int seen(int leaf, int angle) {
        if (!has(leaf)) {
            return UNKNOWN;
        }
        if (angle < 0 || angle > 71) {
            return OUTSIDE;
        }
        if (seen.size() == 8) {
            return FULL;
        }
        seen.add(new int[] {leaf, angle});
        return seen.size();
    }

    int forget() {
        int had = seen.size();
        seen.clear();
        return had;
    }

    int least(int leaf) {
        if (!has(leaf)) {
            return UNKNOWN;
        }
        List<Integer> way = new ArrayList<>();
        way.add(told.homes.get(leaf));
        seen.stream().filter(one -> one[0] == leaf).forEach(one -> way.add(one[1]));
        way.add(at[leaf]);
        int steps = 0;
        for (int i = 1; i < way.size(); i++) {
            int straight = Math.abs(way.get(i) - way.get(i - 1));
            steps += Math.min(straight, 72 - straight);
        }
        return steps;
    }

    int count(int what) {
        int open = 0;
        for (int room = 0; room < n(); room++) {
            open |= open(at, room) ? 1 << room : 0;
        }
        return switch (what) {
            case 0 -> n();
            case 1 -> told.doors.size();
            case 2 -> where.size();
            case 3 -> hours;
            case 4 -> open;
            case 5 -> bits(NONE);
            case 6 -> seen.size();
            case 7 -> text.length();
            default -> OUTSIDE;
        };
    }
}
