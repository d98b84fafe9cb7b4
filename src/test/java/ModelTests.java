import java.util.ArrayDeque;
import java.util.ArrayList;
import java.util.Arrays;
import java.util.Deque;
import java.util.List;
import java.util.Random;
import java.util.TreeSet;

/** Long runs of calls, ordinary and wild, each answered by a second model of the document, written apart. */
public final class ModelTests {
    static final int NONE = -1000000, BAD = -1000001, STATE = -1000002, FULL = -1000003;
    /** A turn may take some seventy calls; all are done before an object's 512 calls are. */
    private static final int RUNS = 2000, CALLS = 440;

    /** A village as it stands; a change makes a new one. */
    record Well(String sort, int fill, int flow, int need, boolean guards, int lacked) {
        Well filled(int now) {
            return new Well(sort, now, flow, need, guards, lacked);
        }

        Well lacking(int more) {
            return new Well(sort, fill, flow, need, guards, lacked + more);
        }

        Well guarded(boolean now) {
            return new Well(sort, fill, flow, need, now, lacked);
        }

        Well flowing(int more) {
            return new Well(sort, fill, flow + more, need, guards, lacked);
        }

        int wants(int night) {
            return sort.equals("lazy") ? night / 2 : sort.equals("strong") ? 2 * night : sort.equals("proud") ? 0 : night;
        }
    }

    /** A plain at one time. */
    record Ring(int night, int room, int days, List<Well> wells) {
        Ring with(int v, Well w) {
            List<Well> other = new ArrayList<>(wells);
            other.set(v, w);
            return new Ring(night, room, days, List.copyOf(other));
        }

        Ring atNight(int other) {
            return new Ring(other, room, days, wells);
        }

        Ring watchedBy(int set) {
            Ring r = this;
            for (int v = 0; v < wells.size(); v++) {
                r = r.with(v, r.wells.get(v).guarded((set & (1 << v)) != 0));
            }
            return r;
        }

        List<Integer> fills() {
            return wells.stream().map(Well::fill).toList();
        }

        int lacked() {
            return wells.stream().mapToInt(Well::lacked).sum();
        }

        Ring dusk(int rain) {
            Ring r = this;
            for (int v = 0; v < wells.size(); v++) {
                Well w = r.wells.get(v);
                int level = Math.min(room, w.fill() + w.flow() + rain) - w.need();
                r = r.with(v, level < 0 ? w.filled(0).lacking(-level) : w.filled(level));
            }
            return r;
        }

        Ring dawn(int set) {
            Ring r = this;
            for (int v = 0; v < wells.size(); v++) {
                int from = (v + 1) % wells.size();
                Well source = r.wells.get(from);
                Well drinker = r.wells.get(v);
                boolean may = !drinker.guards() && !source.guards() && !source.sort().equals("awake");
                if ((set & (1 << v)) != 0 && may) {
                    int draught = Math.min(drinker.wants(night), source.fill());
                    r = r.with(from, source.filled(source.fill() - draught));
                    drinker = r.wells.get(v);
                    r = r.with(v, drinker.filled(Math.min(room, drinker.fill() + draught)));
                }
            }
            return r;
        }

        Ring day(int rain) {
            Ring r = dusk(rain).dawn(-1);
            return new Ring(night, room, days + 1, r.wells);
        }

        int thirsty(int rain) {
            Ring r = dusk(rain);
            int set = 0;
            for (int v = 0; v < wells.size(); v++) {
                set |= r.wells.get(v).lacked() > wells.get(v).lacked() ? 1 << v : 0;
            }
            return set;
        }

        Ring days(int n) {
            return n <= 0 ? this : day(0).days(n - 1);
        }

        int firstThirst(int n) {
            Ring r = this;
            for (int d = 0; d < n; d++) {
                if (r.thirsty(0) != 0) {
                    return d;
                }
                r = r.day(0);
            }
            return NONE;
        }
    }

    static final class Model {
        static final List<String> SORTS = List.of("village", "calm", "lazy", "proud", "strong", "awake");

        final int[][] rows = new int[8][];
        final int[] lanes = new int[8];
        String tape = "";
        Ring ring = null;
        final Deque<Ring> past = new ArrayDeque<>();
        final Ring[] images = new Ring[2];
        final List<Integer> traced = new ArrayList<>();
        int fault = 0;
        int status = 0;

        int size() {
            return ring == null ? 0 : ring.wells.size();
        }

        static boolean in(int x, int least, int most) {
            return least <= x && x <= most;
        }

        int found(int number) {
            status = number;
            return -1000010 - number;
        }

        int row(int row, int lane, int n) {
            if (!in(row, 0, 7) || !in(lane, 0, 2) || n > 40) {
                return BAD;
            }
            if (n < 0) {
                return found(4);
            }
            rows[row] = new int[n];
            lanes[row] = lane;
            status = 0;
            return n;
        }

        int set(int row, int i, int v) {
            if (!in(row, 0, 7)) {
                return BAD;
            }
            if (rows[row] == null) {
                return found(1);
            }
            if (!in(i, 0, rows[row].length - 1)) {
                return found(2);
            }
            int away = lanes[row] == 0 ? 24 : lanes[row] == 1 ? 16 : 0;
            status = 0;
            return rows[row][i] = v << away >> away;
        }

        int copy(int a, int i, int b, int j, int n) {
            if (!in(a, 0, 7) || !in(b, 0, 7)) {
                return BAD;
            }
            if (rows[a] == null || rows[b] == null) {
                return found(1);
            }
            if (lanes[a] != lanes[b]) {
                return found(5);
            }
            if (i < 0 || j < 0 || n < 0 || (long) i + n > rows[a].length || (long) j + n > rows[b].length) {
                return found(2);
            }
            int[] were = rows[a].clone();
            for (int k = 0; k < n; k++) {
                rows[b][j + k] = were[i + k];
            }
            status = 0;
            return n;
        }

        int drop(int row) {
            if (!in(row, 0, 7)) {
                return BAD;
            }
            if (rows[row] == null) {
                return found(1);
            }
            int n = rows[row].length;
            rows[row] = null;
            status = 0;
            return n;
        }

        int feed(long w, int n) {
            if (!in(n, 1, 8)) {
                return BAD;
            }
            if (tape.length() + n > 400) {
                return FULL;
            }
            StringBuilder more = new StringBuilder();
            for (int k = 0; k < n; k++) {
                more.insert(0, (char) (w & 255));
                w >>>= 8;
            }
            tape += more;
            return tape.length();
        }

        /** The tokens with their places, the end among them. */
        static List<String> tokens(String text, List<Integer> places) {
            List<String> all = new ArrayList<>();
            int at = 0;
            while (at < text.length()) {
                String rest = text.substring(at);
                String token = rest.replaceFirst("(?s)^([a-z]+|[0-9]+|.).*$", "$1");
                if (!token.equals(" ") && !token.equals("\n")) {
                    all.add(token);
                    places.add(at);
                }
                at += token.length();
            }
            all.add("");
            places.add(text.length());
            return all;
        }

        /** 0, or the fault of a token where a number between two is wanted. */
        static int numberFault(String token, int least, int most) {
            if (!token.matches("[0-9]{1,3}")) {
                return 1;
            }
            return in(Integer.parseInt(token), least, most) ? 0 : 2;
        }

        int plain() {
            List<Integer> places = new ArrayList<>();
            List<String> tokens = tokens(tape, places);
            tape = "";
            int room = 0;
            List<Well> wells = new ArrayList<>();
            int flaw = 0;
            int t = 0;
            for (; t < tokens.size(); t++) {
                String token = tokens.get(t);
                int part = t < 4 ? t : 4 + (t - 4) % 6;
                switch (part) {
                    case 0 -> flaw = token.equals("law") ? 0 : 1;
                    case 1 -> flaw = numberFault(token, 0, 99);
                    case 2 -> {
                        flaw = numberFault(token, 1, 999);
                        room = flaw == 0 ? Integer.parseInt(token) : 0;
                    }
                    case 4 -> flaw = token.isEmpty() ? 0 : !token.equals("village") ? 1 : wells.size() == 7 ? 3 : 0;
                    case 5 -> flaw = SORTS.indexOf(token) > 0 ? 0 : 1;
                    case 6 -> flaw = numberFault(token, 0, room);
                    case 7, 8 -> flaw = numberFault(token, 0, 99);
                    default -> flaw = token.equals(";") ? 0 : 1;
                }
                if (flaw != 0) {
                    break;
                }
                if (part == 9) {
                    wells.add(new Well(tokens.get(t - 4), Integer.parseInt(tokens.get(t - 3)),
                            Integer.parseInt(tokens.get(t - 2)), Integer.parseInt(tokens.get(t - 1)), false, 0));
                }
            }
            if (flaw != 0) {
                fault = flaw;
                return -1000100 - places.get(t);
            }
            ring = new Ring(Integer.parseInt(tokens.get(1)), room, 0, List.copyOf(wells));
            past.clear();
            return wells.size();
        }

        void keep() {
            past.push(ring);
            if (past.size() > 24) {
                past.removeLast();
            }
        }

        int day(int rain) {
            if (ring == null) {
                return STATE;
            }
            if (!in(rain, 0, 99)) {
                return BAD;
            }
            keep();
            int set = ring.thirsty(rain);
            ring = ring.day(rain);
            return set;
        }

        int weather(int seed) {
            if (ring == null) {
                return STATE;
            }
            if (!in(seed, 1, 999999)) {
                return BAD;
            }
            int rain = java.math.BigInteger.valueOf(seed).multiply(java.math.BigInteger.valueOf(16807))
                    .mod(java.math.BigInteger.valueOf(2147483647)).intValueExact() % 20;
            day(rain);
            return rain;
        }

        int guard(int v, int is) {
            if (!in(v, 0, size() - 1) || !in(is, 0, 1)) {
                return BAD;
            }
            keep();
            int was = ring.wells.get(v).guards() ? 1 : 0;
            ring = ring.with(v, ring.wells.get(v).guarded(is == 1));
            return was;
        }

        int undo() {
            if (past.isEmpty()) {
                return STATE;
            }
            ring = past.pop();
            return past.size();
        }

        int village(int v, int what) {
            if (!in(v, 0, size() - 1) || !in(what, 0, 5)) {
                return BAD;
            }
            Well w = ring.wells.get(v);
            return new int[] {w.fill(), w.flow(), w.need(), w.guards() ? 1 : 0, w.lacked(), w.wants(ring.night)}[what];
        }

        int ahead(int v, int n, int what) {
            if (!in(v, 0, size() - 1) || !in(n, 0, 60) || !in(what, 0, 1)) {
                return BAD;
            }
            Well then = ring.days(n).wells.get(v);
            return what == 0 ? then.fill() : then.lacked() - ring.wells.get(v).lacked();
        }

        int first(int n) {
            return ring == null ? STATE : !in(n, 1, 60) ? BAD : ring.firstThirst(n);
        }

        int rest(int what) {
            if (ring == null) {
                return STATE;
            }
            if (!in(what, 0, 1)) {
                return BAD;
            }
            for (int d = what; d <= 60; d++) {
                Ring then = ring.days(d);
                if (what == 0 && then.day(0).fills().equals(then.fills()) || what == 1 && then.fills().equals(ring.fills())) {
                    return d;
                }
            }
            return NONE;
        }

        int most(int n) {
            if (ring == null) {
                return STATE;
            }
            if (!in(n, 1, 20)) {
                return BAD;
            }
            int most = NONE;
            for (int night = 0; night < 100; night++) {
                most = ring.atNight(night).firstThirst(n) == NONE ? night : most;
            }
            return most;
        }

        int guards(int n) {
            if (ring == null) {
                return STATE;
            }
            if (!in(n, 1, 20)) {
                return BAD;
            }
            TreeSet<Integer> sets = new TreeSet<>((s, t) -> Integer.bitCount(s) != Integer.bitCount(t)
                    ? Integer.bitCount(s) - Integer.bitCount(t) : s - t);
            for (int set = 0; set < 1 << size(); set++) {
                if (ring.watchedBy(set).firstThirst(n) == NONE) {
                    sets.add(set);
                }
            }
            return sets.isEmpty() ? NONE : sets.first();
        }

        int drew(int row, int what) {
            if (ring == null) {
                return STATE;
            }
            if (!in(row, 0, 7) || !in(what, 0, 1)) {
                return BAD;
            }
            if (rows[row] == null) {
                return found(1);
            }
            if (rows[row].length < size()) {
                return found(2);
            }
            status = 0;
            List<Integer> told = Arrays.stream(rows[row]).limit(size()).boxed().toList();
            List<Integer> fitting = new ArrayList<>();
            for (int set = 0; set < 1 << size(); set++) {
                if (ring.dawn(set).fills().equals(told)) {
                    fitting.add(set);
                }
            }
            return what == 0 ? fitting.size() : fitting.isEmpty() ? NONE : fitting.get(0);
        }

        int where(int f, int n, int what) {
            if (size() == 0) {
                return STATE;
            }
            if (!in(f, 1, 99) || !in(n, 1, 20) || !in(what, 0, 1)) {
                return BAD;
            }
            int[] thirst = new int[size()];
            int best = size() - 1;
            for (int v = size() - 1; v >= 0; v--) {
                thirst[v] = ring.with(v, ring.wells.get(v).flowing(f)).days(n).lacked() - ring.lacked();
                best = thirst[v] <= thirst[best] ? v : best;
            }
            return what == 0 ? best : thirst[best];
        }

        int wed(int a, int b, int n) {
            if (!in(a, 0, size() - 1) || !in(b, 0, size() - 1) || a == b || !in(n, 1, 20)) {
                return BAD;
            }
            int both = ring.fills().get(a) + ring.fills().get(b);
            Ring r = ring.with(a, ring.wells.get(a).filled((both + 1) / 2)).with(b, ring.wells.get(b).filled(both / 2));
            int many = 0;
            for (int d = 0; d < n; d++) {
                many += r.thirsty(0) == 0 ? 0 : 1;
                r = r.day(0);
            }
            return many;
        }

        int image(int k) {
            if (!in(k, 0, 1)) {
                return BAD;
            }
            if (ring == null) {
                return STATE;
            }
            images[k] = ring;
            return 1;
        }

        int restore(int k) {
            if (!in(k, 0, 1)) {
                return BAD;
            }
            if (images[k] == null) {
                return STATE;
            }
            ring = images[k];
            past.clear();
            return 1;
        }

        int kind(int v) {
            return in(v, 0, size() - 1) ? SORTS.indexOf(ring.wells.get(v).sort()) : BAD;
        }

        int as(int v, int kind) {
            if (!in(v, 0, size() - 1) || !in(kind, 0, 5)) {
                return BAD;
            }
            String are = List.of("0", "01", "012", "013", "04", "045").get(kind(v));
            if (!are.contains("" + kind)) {
                return found(3);
            }
            status = 0;
            return v;
        }

        int ask(int v, int what) {
            if (!in(v, 0, size() - 1) || !in(what, 0, 1)) {
                return BAD;
            }
            traced.clear();
            Asked asked = switch (ring.wells.get(v).sort()) {
                case "calm" -> new Calm();
                case "lazy" -> new Lazy();
                case "proud" -> new Proud();
                case "strong" -> new Strong();
                default -> new Awake();
            };
            asked.fill = village(v, 0);
            asked.flow = village(v, 1);
            asked.number = v;
            asked.began = traced;
            return what == 0 ? asked.size() : asked.mark();
        }

        int trace(int i) {
            return in(i, 0, Math.min(16, traced.size()) - 1) ? traced.get(i) : NONE;
        }

        int count(int what) {
            return switch (what) {
                case 0 -> (int) Arrays.stream(rows).filter(r -> r != null).count();
                case 1 -> size();
                case 2 -> ring == null ? 0 : ring.days;
                case 3 -> ring == null ? 0 : ring.fills().stream().mapToInt(f -> f).sum();
                case 4 -> past.size();
                case 5 -> ring == null ? 0 : ring.lacked();
                case 6 -> tape.length();
                default -> BAD;
            };
        }
    }

    /** The kinds as Java itself would tell them, with bodies that are handed down. */
    abstract static class Asked {
        int fill;
        int flow;
        int number;
        List<Integer> began;

        int size() {
            began.add(10);
            return fill;
        }

        int mark() {
            began.add(20);
            return number;
        }
    }

    static class Calm extends Asked {
        @Override
        int size() {
            began.add(11);
            return super.size() + mark();
        }

        @Override
        int mark() {
            began.add(21);
            return super.mark() + flow;
        }
    }

    static final class Lazy extends Calm {
        @Override
        int size() {
            began.add(12);
            return 0 - super.size();
        }

        @Override
        int mark() {
            began.add(24);
            return 2 * super.mark();
        }
    }

    static final class Proud extends Calm {
        @Override
        int mark() {
            began.add(22);
            return super.mark() - 1000;
        }
    }

    static class Strong extends Asked {
        @Override
        int size() {
            began.add(13);
            return super.size() - 100;
        }

        @Override
        int mark() {
            began.add(23);
            return super.mark() - size();
        }
    }

    static final class Awake extends Strong {
        @Override
        int size() {
            began.add(14);
            return 2 * super.size();
        }
    }

    private static int wrong = 0;

    /** One run: the same calls on both; every answer, and much of what can be seen, must be alike. */
    static final class Run {
        final Random dice;
        final NightWells real = new NightWells();
        final Model model = new Model();
        final List<String> told = new ArrayList<>();
        final boolean wild;

        Run(int seed) {
            dice = new Random(seed);
            wild = seed % 3 == 0;
        }

        int pick(int least, int most) {
            if (dice.nextInt(wild ? 4 : 20) == 0) {
                int[] odd = {-1, least - 1, most + 1, Integer.MIN_VALUE, Integer.MAX_VALUE, 1 << 30, least, most, 0, 256};
                return odd[dice.nextInt(odd.length)];
            }
            return least + dice.nextInt(most - least + 1);
        }

        void check(String call, long got, long want) {
            told.add(call + " = " + got);
            if (got != want) {
                wrong++;
                System.out.println(call + " answered " + got + ", due is " + want + " behind " + told.size() + " calls");
                if (wrong < 3) {
                    told.forEach(System.out::println);
                }
            }
        }

        String blank() {
            return dice.nextInt(wild ? 5 : 40) == 0 ? List.of("\n", "  ", " \n ", "\t").get(dice.nextInt(wild ? 4 : 3)) : " ";
        }

        String number(int most) {
            int n = dice.nextInt(most + 1);
            if (dice.nextInt(wild ? 30 : 400) == 0) {
                return List.of("1000", "100", "999", "0", "00", "007", "0000", "x", ";").get(dice.nextInt(9));
            }
            return "" + n;
        }

        String text() {
            int room = 1 + dice.nextInt(dice.nextBoolean() ? 999 : 60);
            int most = dice.nextBoolean() ? 99 : 9;
            StringBuilder text = new StringBuilder(blank() + "law" + blank() + number(most) + blank() + room + blank() + ";");
            int many = dice.nextInt(wild ? 9 : 8);
            for (int v = 0; v < many; v++) {
                String sort = Model.SORTS.get(dice.nextInt(wild && dice.nextInt(20) == 0 ? 6 : 5) + (wild ? 0 : 1));
                if (sort.equals("village") && dice.nextInt(6) != 0) {
                    sort = "awake";
                }
                text.append(blank()).append("village").append(blank()).append(sort).append(blank());
                text.append(number(room)).append(blank()).append(number(most)).append(blank()).append(number(most));
                text.append(blank()).append(";");
            }
            text.append(dice.nextInt(6) == 0 ? blank() : "");
            if (wild && dice.nextInt(6) == 0) {
                text.setCharAt(dice.nextInt(text.length()), (char) dice.nextInt(256));
            }
            if (wild && dice.nextInt(12) == 0) {
                text.setLength(dice.nextInt(text.length()));
            }
            return text.toString();
        }

        void feedText(String text) {
            for (int at = 0; at < text.length(); at += 8) {
                long w = dice.nextLong();
                int n = Math.min(8, text.length() - at);
                for (int k = 0; k < n; k++) {
                    w = w << 8 | text.charAt(at + k);
                }
                check("feed(" + w + "L, " + n + ")", real.feed(w, n), model.feed(w, n));
            }
            check("plain() of <" + text + ">", real.plain(), model.plain());
            check("fault()", real.fault(), model.fault);
        }

        void rowCall() {
            int a = pick(0, dice.nextBoolean() ? 7 : 1);
            int b = pick(0, dice.nextBoolean() ? 7 : 1);
            int i = pick(0, 9);
            int j = pick(0, 9);
            int n = pick(0, 40);
            int few = pick(0, 5);
            switch (dice.nextInt(5)) {
                case 0 -> check("row(" + a + ", " + few + ", " + n + ")", real.row(a, few % 3, n), model.row(a, few % 3, n));
                case 1 -> {
                    int v = dice.nextBoolean() ? dice.nextInt() : n;
                    check("set(" + a + ", " + i + ", " + v + ")", real.set(a, i, v), model.set(a, i, v));
                }
                case 2 -> check("copy(" + a + ", " + i + ", " + b + ", " + j + ", " + few + ")",
                        real.copy(a, i, b, j, few), model.copy(a, i, b, j, few));
                case 3 -> check("copy(" + a + ", " + i + ", " + a + ", " + j + ", " + n + ")",
                        real.copy(a, i, a, j, n), model.copy(a, i, a, j, n));
                default -> {
                    if (dice.nextInt(3) == 0) {
                        check("drop(" + a + ")", real.drop(a), model.drop(a));
                    }
                }
            }
        }

        /** A row that tells a night which some set would have made, or nearly. */
        void tellNight() {
            if (model.ring == null) {
                return;
            }
            int set = dice.nextInt(128);
            List<Integer> fills = model.ring.dawn(set).fills();
            int lane = dice.nextInt(3);
            check("row(3, " + lane + ", 9)", real.row(3, lane, 9), model.row(3, lane, 9));
            for (int v = 0; v < fills.size(); v++) {
                int fill = fills.get(v) + (dice.nextInt(40) == 0 ? 1 : 0);
                check("set(3, " + v + ", " + fill + ")", real.set(3, v, fill), model.set(3, v, fill));
            }
            check("drew(3, 0)", real.drew(3, 0), model.drew(3, 0));
            check("drew(3, 1)", real.drew(3, 1), model.drew(3, 1));
        }

        void plainCall() {
            int v = pick(0, Math.max(0, model.size() - 1));
            int few = pick(0, 1);
            switch (dice.nextInt(9)) {
                case 0, 1, 2 -> {
                    int rain = dice.nextBoolean() ? dice.nextInt(4) : pick(0, 99);
                    check("day(" + rain + ")", real.day(rain), model.day(rain));
                }
                case 3, 4 -> {
                    int seed = pick(1, 999999);
                    check("weather(" + seed + ")", real.weather(seed), model.weather(seed));
                }
                case 5 -> check("guard(" + v + ", " + few + ")", real.guard(v, few), model.guard(v, few));
                case 6 -> check("undo()", real.undo(), model.undo());
                case 7 -> check("image(" + few + ")", real.image(few), model.image(few));
                default -> {
                    if (dice.nextInt(4) == 0) {
                        check("restore(" + few + ")", real.restore(few), model.restore(few));
                    }
                }
            }
        }

        void foretell() {
            int v = pick(0, Math.max(0, model.size() - 1));
            int u = pick(0, Math.max(0, model.size() - 1));
            int far = pick(dice.nextBoolean() ? 0 : 1, 60);
            int near = pick(1, dice.nextBoolean() ? 20 : 3);
            int few = pick(0, 1);
            int more = pick(1, 99);
            switch (dice.nextInt(8)) {
                case 0 -> check("ahead(" + v + ", " + far + ", " + few + ")", real.ahead(v, far, few), model.ahead(v, far, few));
                case 1 -> check("first(" + far + ")", real.first(far), model.first(far));
                case 2 -> check("rest(" + few + ")", real.rest(few), model.rest(few));
                case 3 -> check("most(" + near + ")", real.most(near), model.most(near));
                case 4 -> check("guards(" + near + ")", real.guards(near), model.guards(near));
                case 5 -> check("drew(" + u + ", " + few + ")", real.drew(u, few), model.drew(u, few));
                case 6 -> check("where(" + more + ", " + near + ", " + few + ")",
                        real.where(more, near, few), model.where(more, near, few));
                default -> check("wed(" + v + ", " + u + ", " + near + ")", real.wed(v, u, near), model.wed(v, u, near));
            }
        }

        void lookAround() {
            for (int what = -1; what <= 7; what++) {
                check("count(" + what + ")", real.count(what), model.count(what));
            }
            for (int v = 0; v < model.size(); v++) {
                for (int what = 0; what <= 6; what++) {
                    check("village(" + v + ", " + what + ")", real.village(v, what), model.village(v, what));
                }
                check("kind(" + v + ")", real.kind(v), model.kind(v));
            }
        }

        void askCall() {
            int v = pick(0, Math.max(0, model.size() - 1));
            int kind = pick(0, 5);
            int few = pick(0, 1);
            switch (dice.nextInt(5)) {
                case 0 -> check("kind(" + v + ")", real.kind(v), model.kind(v));
                case 1 -> check("as(" + v + ", " + kind + ")", real.as(v, kind), model.as(v, kind));
                case 2 -> {
                    int what = pick(0, 5);
                    check("village(" + v + ", " + what + ")", real.village(v, what), model.village(v, what));
                }
                default -> {
                    check("ask(" + v + ", " + few + ")", real.ask(v, few), model.ask(v, few));
                    for (int i = -1; i <= 6; i++) {
                        check("trace(" + i + ")", real.trace(i), model.trace(i));
                    }
                }
            }
        }

        void play(int calls) {
            for (int turn = 0; told.size() < calls && turn < 4 * calls; turn++) {
                int dot = dice.nextInt(100);
                if (dot < 4 || turn == 0 && !wild) {
                    feedText(text());
                } else if (dot < 5) {
                    long w = dice.nextLong();
                    int n = pick(1, 8);
                    check("feed(" + w + "L, " + n + ")", real.feed(w, n), model.feed(w, n));
                } else if (dot < 25) {
                    rowCall();
                } else if (dot < 30) {
                    tellNight();
                } else if (dot < 60) {
                    plainCall();
                } else if (dot < 80) {
                    foretell();
                } else if (dot < 95) {
                    askCall();
                } else {
                    lookAround();
                }
                check("status()", real.status(), model.status);
            }
        }
    }

    public static void main(String[] args) {
        int runs = args.length > 0 ? Integer.parseInt(args[0]) : RUNS;
        for (int seed = 0; seed < runs && wrong == 0; seed++) {
            new Run(seed).play(CALLS);
        }
        System.out.println(wrong == 0 ? "all runs are as the model has them" : wrong + " answers differ from the model");
        if (wrong != 0) {
            System.exit(1);
        }
    }
}
