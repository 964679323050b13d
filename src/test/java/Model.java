import java.math.BigInteger;
import java.util.ArrayDeque;
import java.util.ArrayList;
import java.util.Arrays;
import java.util.Deque;
import java.util.LinkedHashMap;
import java.util.List;
import java.util.Map;
import java.util.regex.Matcher;
import java.util.regex.Pattern;

/**
 * The document a second time, written apart from the program and as unlike it as can be: kinds are
 * classes over one another, states are copied whole, and what is asked is found by trying all.
 */
final class Model {
    private static final int NONE = -1, NO = -3, FULL = -4;

    /** A number that is not as told. */
    private static final class Bad extends RuntimeException {
        private static final long serialVersionUID = 1;
    }

    // ---- kinds of cells

    static class Plain {
        int grows(int i, int f) {
            return f;
        }

        int melts(int s) {
            return s;
        }

        int bears(int i) {
            return 2 * i;
        }

        final int behind(int i, int f, int s) {
            int grown = i + grows(i, f);
            if (grown > 99) {
                grown = 99;
            }
            int left = grown - melts(s);
            return left < 0 ? 0 : left;
        }
    }

    static class Stream extends Plain {
        @Override
        int grows(int i, int f) {
            return super.grows(i, f) / 2;
        }

        @Override
        int melts(int s) {
            return super.melts(s) + 1;
        }
    }

    static class Snow extends Plain {
        @Override
        int grows(int i, int f) {
            int less = super.grows(i, f) - 2;
            return less < 0 ? 0 : less;
        }

        @Override
        int melts(int s) {
            return super.melts(s) / 2;
        }
    }

    static class Bay extends Plain {
        @Override
        int grows(int i, int f) {
            return f == 0 ? super.grows(i, f) : super.grows(i, f) + 1;
        }
    }

    static class Mouth extends Stream {
        @Override
        int grows(int i, int f) {
            return i >= 10 ? super.grows(i, f) : 0;
        }

        @Override
        int bears(int i) {
            int less = super.bears(i) - 5;
            return less < 0 ? 0 : less;
        }
    }

    static class Drift extends Snow {
        @Override
        int bears(int i) {
            int whole = super.bears(i);
            return whole / 2 + whole % 2;
        }
    }

    private static final Plain[] CELLS = {new Plain(), new Stream(), new Snow(), new Bay(), new Mouth(), new Drift()};

    // ---- kinds of voters

    static class Voter {
        boolean yes(int w, int b, int n, int f) {
            return b >= w;
        }
    }

    static class Brewer extends Voter {
        @Override
        boolean yes(int w, int b, int n, int f) {
            return super.yes(w, b, n, f) && b >= 40;
        }
    }

    static class Ferry extends Voter {
        @Override
        boolean yes(int w, int b, int n, int f) {
            return false;
        }
    }

    static class Father extends Voter {
        @Override
        boolean yes(int w, int b, int n, int f) {
            return super.yes(w, b, n, f) || f >= 6;
        }
    }

    static class Party extends Father {
        @Override
        boolean yes(int w, int b, int n, int f) {
            return f >= 1 || super.yes(w, b, n, f);
        }
    }

    static class Ear extends Brewer {
        @Override
        boolean yes(int w, int b, int n, int f) {
            return super.yes(w, b, n, f) && n >= w;
        }
    }

    private static final Voter[] VOTERS = {new Voter(), new Brewer(), new Ferry(), new Father(), new Party(), new Ear()};

    // ---- a state

    private static final class World {
        int[] kind = new int[25];
        int[] ice = new int[25];
        int[] frost = new int[7];
        int[] sun = new int[7];
        int[] words = new int[4];
        int day;
        List<int[]> voters = new ArrayList<>();
        List<int[]> notes = new ArrayList<>();
        List<int[]> voted = new ArrayList<>();
        /** The ice and, behind it, the day. */
        Deque<int[]> past = new ArrayDeque<>();

        World copy() {
            World other = new World();
            other.kind = kind.clone();
            other.ice = ice.clone();
            other.frost = frost.clone();
            other.sun = sun.clone();
            other.words = words.clone();
            other.day = day;
            other.voters.addAll(voters);
            other.notes.addAll(notes);
            other.voted.addAll(voted);
            other.past.addAll(past);
            return other;
        }

        void remember() {
            int[] then = Arrays.copyOf(ice, 26);
            then[25] = day;
            past.addLast(then);
            if (past.size() > 8) {
                past.removeFirst();
            }
        }

        int bears(int c) {
            return CELLS[kind[c]].bears(ice[c]);
        }

        void night(int f, int s) {
            for (int c = 0; c < 25; c++) {
                ice[c] = CELLS[kind[c]].behind(ice[c], f, s);
            }
            day++;
        }

        World later(int days) {
            World other = copy();
            for (int d = 0; d < days; d++) {
                other.night(frost[other.day % 7], sun[other.day % 7]);
            }
            return other;
        }

        int together() {
            return Arrays.stream(ice).sum();
        }

        boolean votes(int v, int f) {
            int[] voter = voters.get(v);
            int least = Integer.MAX_VALUE;
            for (int other : beside(voter[2])) {
                least = Math.min(least, bears(other));
            }
            return VOTERS[voter[0]].yes(voter[1], bears(voter[2]), least, f);
        }

        int yes(int f) {
            int bits = 0;
            for (int v = 0; v < voters.size(); v++) {
                bits += votes(v, f) ? 1 << v : 0;
            }
            return bits;
        }

        int yes() {
            return yes(frost[day % 7]);
        }

        boolean light(int v) {
            return bears(voters.get(v)[2]) >= voters.get(v)[1];
        }

        boolean carried(int bits) {
            int votes = 0;
            int most = -1;
            boolean mostVotes = false;
            for (int v = 0; v < voters.size(); v++) {
                boolean yes = (bits & 1 << v) != 0;
                votes += yes ? 1 : -1;
                if (voters.get(v)[1] > most) {
                    most = voters.get(v)[1];
                    mostVotes = yes;
                }
            }
            return votes > 0 || votes == 0 && mostVotes;
        }

        int wet(int f) {
            int yes = yes(f);
            int wet = 0;
            if (carried(yes)) {
                for (int v = 0; v < voters.size(); v++) {
                    wet += (yes & 1 << v) != 0 && !light(v) ? 1 << v : 0;
                }
            }
            return wet;
        }

        /** The path of fewest cells, the first of them; null: none. */
        List<Integer> path(int w, int a, int b, List<Integer> without) {
            Map<Integer, Integer> from = new LinkedHashMap<>();
            Deque<Integer> waiting = new ArrayDeque<>();
            if (bears(a) >= w) {
                from.put(a, a);
                waiting.add(a);
            }
            while (!waiting.isEmpty()) {
                int c = waiting.remove();
                for (int other : beside(c)) {
                    if (!from.containsKey(other) && bears(other) >= w && !without.contains(other)) {
                        from.put(other, c);
                        waiting.add(other);
                    }
                }
            }
            if (!from.containsKey(b)) {
                return null;
            }
            List<Integer> path = new ArrayList<>();
            for (int c = b; c != a; c = from.get(c)) {
                path.add(0, c);
            }
            path.add(0, a);
            return path;
        }
    }

    /** The cells beside one, rising. */
    private static List<Integer> beside(int c) {
        List<Integer> all = new ArrayList<>();
        for (int other = 0; other < 25; other++) {
            if (Math.abs(other / 5 - c / 5) + Math.abs(other % 5 - c % 5) == 1) {
                all.add(other);
            }
        }
        return all;
    }

    private World world = new World();
    private final World[] images = new World[2];
    private StringBuilder text = new StringBuilder();
    private BigInteger above = BigInteger.ZERO;
    private BigInteger below = BigInteger.ONE;
    private final int[] refused = new int[3];

    private static void need(int x, int least, int most) {
        if (x < least || x > most) {
            throw new Bad();
        }
    }

    private static void cellNeeded(int c) {
        need(c, 0, 24);
    }

    private void voterNeeded(int v) {
        need(v, 0, world.voters.size() - 1);
    }

    private static void unlike(int a, int b) {
        if (a == b) {
            throw new Bad();
        }
    }

    /** What the call answers; whatever is refused is counted here. */
    long answer(Calls call, int... n) {
        try {
            long answer = answered(call, n);
            return answer;
        } catch (Bad bad) {
            refused[0]++;
            return call == Calls.PATH ? -10 : call == Calls.STATUS ? -1 : -2;
        }
    }

    private int no() {
        refused[1]++;
        return NO;
    }

    private int full() {
        refused[2]++;
        return FULL;
    }

    private long answered(Calls call, int[] n) {
        switch (call) {
            case LAKE: return lake(n[0]);
            case CELL: return cell(n[0], n[1]);
            case WEATHER: return weather(n[0], n[1], n[2]);
            case WARD: return ward(n[0], n[1]);
            case VOTER: return voter(n[0], n[1], n[2]);
            case TYPE: return type(n[0]);
            case CLEAR: return clear();
            case READ: return read();
            case DAY: return day(n[0]);
            case TREAD: return tread(n[0], n[1]);
            case STONE: return stone(n[0]);
            case UNDO: return undo();
            case OF: return of(n[0], n[1]);
            case ABOUT: return about(n[0], n[1]);
            case THEN: return then(n[0], n[1], n[2]);
            case WHEN: return when(n[0], n[1]);
            case WHERE: return where(n[0], n[1]);
            case HORSES: return horses(n[0]);
            case PATH: return path(n[0], n[1], n[2], n[3]);
            case SAFE: return safe(n[0], n[1]);
            case CROSS: return cross(n[0], n[1], n[2]);
            case APART: return apart(n[0], n[1], n[2], n[3]);
            default: return answeredOfVotes(call, n);
        }
    }

    private long answeredOfVotes(Calls call, int[] n) {
        switch (call) {
            case VOTES: return votes(n[0]);
            case TURN: return turn();
            case SEEN: return seen(n[0], n[1]);
            case LIES: return lies();
            case STONES: return stones(n[0], n[1], n[2]);
            case NOTE: return note(n);
            case VOTED: return voted(n);
            case FORGET: return forget(n[0]);
            case IS: return is(n[0]).stream().mapToInt(k -> 1 << k).sum();
            case NEXT: return next(n[0]);
            case WHO: return who(n[0]);
            case TWO: return two(n[0], n[1]);
            case THAW: return thaw(n[0], n[1], n[2], n[3]);
            case WINTERS: return winters(n[0], n[1]);
            case PART: need(n[0], 0, 1); return (n[0] == 0 ? above : below).longValueExact();
            case IMAGE: need(n[0], 0, 1); images[n[0]] = world.copy(); return 1;
            case FROM: return from(n[0]);
            case STATUS: need(n[0], 0, 2); return refused[n[0]];
            case COUNT: return count(n[0]);
            case DIGEST: return digest();
            default: throw new IllegalArgumentException(call.call);
        }
    }

    private long lake(int ice) {
        need(ice, 0, 99);
        int voters = world.voters.size();
        world = new World();
        Arrays.fill(world.ice, ice);
        return voters;
    }

    private long cell(int c, int kind) {
        cellNeeded(c);
        need(kind, 0, 5);
        int was = world.kind[c];
        world.kind[c] = kind;
        world.past.clear();
        return was;
    }

    private long weather(int day, int frost, int sun) {
        need(day, 0, 6);
        need(frost, 0, 9);
        need(sun, 0, 9);
        int was = Integer.parseInt("" + world.frost[day] + world.sun[day]);
        world.frost[day] = frost;
        world.sun[day] = sun;
        world.past.clear();
        return was;
    }

    private long ward(int w, int word) {
        need(w, 0, 3);
        need(word, 0, 99);
        int was = world.words[w];
        world.words[w] = word;
        world.past.clear();
        return was;
    }

    private long voter(int kind, int weight, int c) {
        need(kind, 0, 5);
        need(weight, 1, 99);
        cellNeeded(c);
        if (world.voters.size() == 7) {
            return full();
        }
        world.voters.add(new int[] {kind, weight, c});
        world.past.clear();
        return world.voters.size() - 1;
    }

    private long type(int c) {
        need(c, 0, 127);
        if (text.length() == 150) {
            return full();
        }
        return text.append((char) c).length();
    }

    private long clear() {
        int was = text.length();
        text = new StringBuilder();
        return was;
    }

    /** The document's faults by a machine over tokens: what may stand next is told as a pattern's name. */
    private long read() {
        World read = new World();
        int items = 0;
        String next = "lake";
        List<Integer> told = new ArrayList<>();
        Matcher token = Pattern.compile("[a-z]+|[0-9]+|[^ ]").matcher(text);
        boolean first = true;
        String item = "";
        while (token.find()) {
            String word = token.group();
            int fault = -10 - token.start();
            if (item.isEmpty()) {
                boolean stands = first ? word.equals("lake")
                        : word.equals("cell") || word.equals("week") || word.equals("voter") && read.voters.size() < 7;
                if (!stands) {
                    return fault;
                }
                first = false;
                item = word;
                told.clear();
            } else if (word.equals(";")) {
                if (!whole(item, told.size())) {
                    return fault;
                }
                tell(read, item, told);
                items++;
                item = "";
            } else {
                if (!word.matches("[0-9]{1,2}") || !stands(item, told.size(), Integer.parseInt(word))) {
                    return fault;
                }
                told.add(Integer.parseInt(word));
            }
        }
        if (first || !item.isEmpty()) {
            return -10 - text.length();
        }
        world = read;
        return items;
    }

    private static boolean whole(String item, int numbers) {
        switch (item) {
            case "lake": return numbers == 1;
            case "cell": return numbers >= 2;
            case "week": return numbers >= 2 && numbers % 2 == 0;
            default: return numbers == 3;
        }
    }

    private static boolean stands(String item, int place, int number) {
        switch (item) {
            case "lake": return place == 0;
            case "cell": return place == 0 ? number <= 5 : number <= 24;
            case "week": return place < 14 && number <= 9;
            default: return place == 0 ? number <= 5 : place == 1 ? number > 0 : place == 2 && number <= 24;
        }
    }

    private static void tell(World read, String item, List<Integer> told) {
        switch (item) {
            case "lake":
                Arrays.fill(read.ice, told.get(0));
                break;
            case "cell":
                for (int c : told.subList(1, told.size())) {
                    read.kind[c] = told.get(0);
                }
                break;
            case "week":
                for (int i = 0; i < told.size(); i++) {
                    (i % 2 == 0 ? read.frost : read.sun)[i / 2] = told.get(i);
                }
                break;
            default:
                read.voters.add(new int[] {told.get(0), told.get(1), told.get(2)});
        }
    }

    private long day(int n) {
        need(n, 1, 60);
        world.remember();
        for (int d = 0; d < n; d++) {
            if (world.day != 999) {
                world.night(world.frost[world.day % 7], world.sun[world.day % 7]);
            }
        }
        return world.together();
    }

    private long tread(int c, int w) {
        cellNeeded(c);
        need(w, 1, 99);
        world.remember();
        if (world.bears(c) < w) {
            world.ice[c] = 0;
            return 0;
        }
        world.ice[c] = Math.max(world.ice[c] - 1, 0);
        return 1;
    }

    private long stone(int c) {
        cellNeeded(c);
        world.remember();
        world.ice[c] >>= 1;
        return world.ice[c];
    }

    private long undo() {
        if (world.past.isEmpty()) {
            return no();
        }
        int[] then = world.past.removeLast();
        world.ice = Arrays.copyOf(then, 25);
        world.day = then[25];
        return world.day;
    }

    private long of(int c, int what) {
        cellNeeded(c);
        need(what, 0, 2);
        return new int[] {world.kind[c], world.ice[c], world.bears(c)}[what];
    }

    private long about(int v, int what) {
        voterNeeded(v);
        need(what, 0, 3);
        return what < 3 ? world.voters.get(v)[what] : world.votes(v, world.frost[world.day % 7]) ? 1 : 0;
    }

    private long then(int c, int m, int what) {
        cellNeeded(c);
        need(m, 0, 60);
        need(what, 0, 1);
        World later = world.later(m);
        return what == 0 ? later.ice[c] : later.bears(c);
    }

    private long when(int c, int w) {
        cellNeeded(c);
        need(w, 1, 198);
        World later = world.copy();
        for (int m = 0; m <= 60; m++, later = later.later(1)) {
            if (later.bears(c) >= w) {
                return m;
            }
        }
        return NONE;
    }

    private long where(int w, int m) {
        need(w, 1, 198);
        need(m, 0, 60);
        World later = world.later(m);
        long bits = 0;
        for (int c = 24; c >= 0; c--) {
            bits = 2 * bits + (later.bears(c) >= w ? 1 : 0);
        }
        return bits;
    }

    private long horses(int w) {
        need(w, 1, 198);
        World later = world.copy();
        for (int m = 0; m <= 60; m++, later = later.later(1)) {
            int all = 0;
            for (int c = 0; c < 25; c++) {
                all += later.bears(c);
            }
            if (all >= 25 * w) {
                return m;
            }
        }
        return NONE;
    }

    private long path(int w, int a, int b, int i) {
        need(w, 1, 198);
        cellNeeded(a);
        cellNeeded(b);
        need(i, -1, Integer.MAX_VALUE);
        List<Integer> path = world.path(w, a, b, List.of());
        if (path == null) {
            return NONE;
        }
        return i == -1 ? path.size() : i >= path.size() ? -5 : path.get(i);
    }

    private long safe(int a, int b) {
        cellNeeded(a);
        cellNeeded(b);
        int most = 198;
        while (world.path(most, a, b, List.of()) == null) {
            most--;
        }
        return most;
    }

    private long cross(int w, int a, int b) {
        need(w, 1, 99);
        cellNeeded(a);
        cellNeeded(b);
        unlike(a, b);
        World worn = world.copy();
        int sledges = 0;
        for (List<Integer> path = worn.path(w, a, b, List.of()); path != null && sledges < 40; sledges++) {
            for (int c : path) {
                worn.ice[c] = Math.max(0, worn.ice[c] - 1);
            }
            path = worn.path(w, a, b, List.of());
        }
        return sledges;
    }

    private long apart(int w, int a, int b, int what) {
        need(w, 1, 198);
        cellNeeded(a);
        cellNeeded(b);
        unlike(a, b);
        need(what, 0, 1);
        if (world.path(w, a, b, List.of()) == null) {
            return 0;
        }
        long one = Long.MAX_VALUE;
        long two = Long.MAX_VALUE;
        for (int x = 0; x < 25; x++) {
            for (int y = x; y < 25; y++) {
                boolean inner = x != a && x != b && y != a && y != b;
                if (inner && world.path(w, a, b, List.of(x, y)) == null) {
                    if (x == y) {
                        one = Math.min(one, 32 * 31 + x);
                    } else {
                        two = Math.min(two, 32 * x + y);
                    }
                }
            }
        }
        if (one != Long.MAX_VALUE) {
            return what == 0 ? 1 : one;
        }
        return two == Long.MAX_VALUE ? NONE : what == 0 ? 2 : two;
    }

    private long votes(int what) {
        need(what, 0, 2);
        int f = world.frost[world.day % 7];
        return what == 0 ? world.yes() : what == 1 ? (world.carried(world.yes()) ? 1 : 0) : world.wet(f);
    }

    private long turn() {
        int yes = world.yes();
        int voters = world.voters.size();
        for (int many = 0; many <= voters; many++) {
            for (int set = 0; set < 1 << voters; set++) {
                if (Integer.bitCount(set) == many && world.carried(yes ^ set) != world.carried(yes)) {
                    return set;
                }
            }
        }
        return NONE;
    }

    private long seen(int wet, int what) {
        int voters = world.voters.size();
        need(wet, 0, (1 << voters) - 1);
        need(what, 0, 2);
        List<Integer> sets = new ArrayList<>();
        for (int set = 0; set < 1 << voters; set++) {
            boolean just = true;
            for (int v = 0; v < voters; v++) {
                boolean told = (wet >> v) % 2 == 1;
                boolean falls = (set >> v) % 2 == 1 && !world.light(v);
                just &= told == falls;
            }
            if (just && world.carried(set)) {
                sets.add(set);
            }
        }
        if (what == 0) {
            return sets.size();
        }
        if (what == 1) {
            return sets.stream().reduce((x, y) -> x & y).orElse(NONE);
        }
        return sets.stream().reduce((x, y) -> x | y).orElse(0);
    }

    private long lies() {
        int[] sums = new int[4];
        for (int c = 0; c < 25; c++) {
            int row = c / 5;
            int column = c % 5;
            if (row != 2 && column != 2) {
                sums[(row > 2 ? 2 : 0) + (column > 2 ? 1 : 0)] += world.ice[c];
            }
        }
        int bits = 0;
        for (int w = 0; w < 4; w++) {
            bits += world.words[w] > sums[w] / 4 ? 1 << w : 0;
        }
        return bits;
    }

    private long stones(int w, int a, int b) {
        need(w, 1, 198);
        cellNeeded(a);
        cellNeeded(b);
        unlike(a, b);
        boolean breaksA = world.bears(a) < w;
        boolean breaksB = world.bears(b) < w;
        return breaksA && !breaksB ? a : breaksB && !breaksA ? b : NONE;
    }

    private long note(int[] n) {
        cellNeeded(n[0]);
        need(n[1], 0, 99);
        need(n[2], 0, 9);
        need(n[3], 0, 9);
        need(n[4], 0, 99);
        if (world.notes.size() == 6) {
            return full();
        }
        world.notes.add(n.clone());
        return world.notes.size();
    }

    private long voted(int[] n) {
        voterNeeded(n[0]);
        need(n[1], 0, 1);
        need(n[2], 0, 198);
        need(n[3], 0, 198);
        need(n[4], 0, 9);
        if (world.voted.size() == 6) {
            return full();
        }
        world.voted.add(n.clone());
        return world.voted.size();
    }

    private long forget(int what) {
        need(what, 0, 1);
        List<int[]> list = what == 0 ? world.notes : world.voted;
        int size = list.size();
        list.clear();
        return size;
    }

    private List<Integer> is(int c) {
        cellNeeded(c);
        List<Integer> kinds = new ArrayList<>();
        for (int kind = 0; kind < 6; kind++) {
            Plain rule = CELLS[kind];
            if (world.notes.stream().allMatch(n -> n[0] != c || rule.behind(n[1], n[2], n[3]) == n[4])) {
                kinds.add(kind);
            }
        }
        return kinds;
    }

    private long next(int c) {
        List<Integer> kinds = is(c);
        int best = NONE;
        int fewest = kinds.isEmpty() ? 0 : 7;
        for (int f = 0; f < 10; f++) {
            for (int s = 0; s < 10; s++) {
                int[] alike = new int[100];
                for (int kind : kinds) {
                    alike[CELLS[kind].behind(world.ice[c], f, s)]++;
                }
                int most = Arrays.stream(alike).max().getAsInt();
                if (most < fewest) {
                    fewest = most;
                    best = 10 * f + s;
                }
            }
        }
        return best;
    }

    private long who(int v) {
        voterNeeded(v);
        int weight = world.voters.get(v)[1];
        int bits = 0;
        for (int kind = 0; kind < 6; kind++) {
            Voter rule = VOTERS[kind];
            boolean all = world.voted.stream()
                    .allMatch(n -> n[0] != v || rule.yes(weight, n[2], n[3], n[4]) == (n[1] == 1));
            bits += all ? 1 << kind : 0;
        }
        return bits;
    }

    private int gain(int v, boolean carried, boolean yes) {
        return !carried ? 0 : world.light(v) ? 2 : yes ? -3 : -1;
    }

    private long two(int a, int b) {
        voterNeeded(a);
        voterNeeded(b);
        unlike(a, b);
        int[][] gains = new int[4][];
        for (int pair = 0; pair < 4; pair++) {
            boolean yesA = pair % 2 == 1;
            boolean yesB = pair / 2 == 1;
            int set = 0;
            for (int v = 0; v < world.voters.size(); v++) {
                boolean yes = v == a ? yesA : v == b ? yesB : world.votes(v, world.frost[world.day % 7]);
                set += yes ? 1 << v : 0;
            }
            boolean carried = world.carried(set);
            gains[pair] = new int[] {gain(a, carried, yesA), gain(b, carried, yesB)};
        }
        int bits = 0;
        int[] otherwiseA = {1, 0, 3, 2};
        int[] otherwiseB = {2, 3, 0, 1};
        for (int pair = 0; pair < 4; pair++) {
            boolean rests = gains[otherwiseA[pair]][0] <= gains[pair][0] && gains[otherwiseB[pair]][1] <= gains[pair][1];
            bits += rests ? 1 << pair : 0;
        }
        return bits;
    }

    /** In how many of 10 to the m ways the cell bears it. */
    private long ways(Plain rule, int ice, int w, int day, int m, int odds) {
        if (m == 0) {
            return rule.bears(ice) >= w ? 1 : 0;
        }
        int f = world.frost[day % 7];
        int s = world.sun[day % 7];
        return odds * ways(rule, rule.behind(ice, 0, s), w, day + 1, m - 1, odds)
                + (10 - odds) * ways(rule, rule.behind(ice, f, s), w, day + 1, m - 1, odds);
    }

    private long thaw(int c, int w, int m, int odds) {
        cellNeeded(c);
        need(w, 1, 198);
        need(m, 0, 8);
        need(odds, 0, 10);
        BigInteger ways = BigInteger.valueOf(ways(CELLS[world.kind[c]], world.ice[c], w, world.day, m, odds));
        BigInteger all = BigInteger.TEN.pow(m);
        BigInteger common = ways.gcd(all);
        above = ways.divide(common);
        below = all.divide(common);
        return 1;
    }

    private long winters(int seed, int n) {
        need(seed, 0, 999999);
        need(n, 0, 60);
        World winter = world.copy();
        BigInteger x = BigInteger.valueOf(seed);
        int wet = 0;
        for (int d = 0; d < n; d++) {
            x = x.multiply(BigInteger.valueOf(1103515245)).add(BigInteger.valueOf(12345)).mod(BigInteger.ONE.shiftLeft(31));
            int f = x.shiftRight(16).mod(BigInteger.TEN).intValue();
            int s = x.shiftRight(20).mod(BigInteger.TEN).intValue();
            winter.night(f, s);
            wet += Integer.bitCount(winter.wet(f));
        }
        return wet;
    }

    private long from(int i) {
        need(i, 0, 1);
        if (images[i] == null) {
            return no();
        }
        world = images[i].copy();
        return 1;
    }

    private int[] counts() {
        return new int[] {world.voters.size(), world.day, world.together(), world.notes.size(), world.voted.size(),
            world.past.size(), text.length()};
    }

    private long count(int what) {
        need(what, 0, 6);
        return counts()[what];
    }

    private long digest() {
        List<Long> all = new ArrayList<>();
        for (int count : counts()) {
            all.add((long) count);
        }
        for (int c = 0; c < 25; c++) {
            all.add((long) world.kind[c]);
            all.add((long) world.ice[c]);
        }
        for (int d = 0; d < 7; d++) {
            all.add((long) world.frost[d]);
            all.add((long) world.sun[d]);
        }
        for (int word : world.words) {
            all.add((long) word);
        }
        for (List<int[]> rows : List.of(world.voters, world.notes, world.voted)) {
            for (int[] row : rows) {
                for (int number : row) {
                    all.add((long) number);
                }
            }
        }
        all.add(above.longValueExact());
        all.add(below.longValueExact());
        long h = 1453;
        for (long v : all) {
            h = 31 * h + v;
        }
        return h;
    }
}
