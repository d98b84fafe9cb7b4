import java.util.ArrayList;
import java.util.List;

/**
 * "What is refused, or found, changes nothing but status()": every call that is refused or finds something is made on
 * one of two objects that are alike; what can be seen of both, to the last act and image, is alike behind it.
 */
public final class RefusalEdges extends Checks {
    private static final String PLAIN = "law 6 60;village calm 20 5 7;village lazy 10 4 26;village strong 3 9 2;village awake 30 1 8;";

    /** A call that is refused: its answer. */
    private interface Call {
        int on(NightWells x);
    }

    /** How an object comes to stand. */
    private interface State {
        NightWells make();
    }

    private static NightWells fresh() {
        return new NightWells();
    }

    private static NightWells noVillages() {
        NightWells x = told("law 6 60;");
        x.day(3);
        return x;
    }

    /** Four villages, acts of each kind, two images, rows of each lane, a trace, a fault, bytes on the tape. */
    private static NightWells lived() {
        NightWells x = told(PLAIN);
        x.day(2);
        x.image(1);
        x.guard(0, 1);
        x.weather(77);
        x.image(0);
        x.guard(2, 1);
        x.guard(0, 0);
        x.day(0);
        x.ask(1, 0);
        read(x, "law 1000");
        tellIn(x, BYTES, 0, 1, 2, 3, 4, 9);
        tellIn(x, SHORTS, 1, 1, 2, 3);
        tellIn(x, INTS, 2, 1, 2, 3);
        x.copy(0, 0, 0, 0, 0);
        feed(x, "law 9 99;vill");
        return x;
    }

    /** The same with a tape that is full. */
    private static NightWells full() {
        NightWells x = lived();
        feed(x, "age calm 5 6 7;");
        feed(x, " ".repeat(400 - x.count(6)));
        return x;
    }

    /** All that can be seen, by calls that lose it in the end; status() is not among it. */
    private static List<Integer> seen(NightWells x) {
        List<Integer> all = new ArrayList<>();
        for (int what = 0; what <= 6; what++) {
            all.add(x.count(what));
        }
        for (int i = 0; i <= 7; i++) {
            all.add(x.trace(i));
        }
        all.add(x.fault());
        seePlain(x, all);
        for (int n : new int[] {1, 20}) {
            all.add(x.first(n));
            all.add(x.most(n));
            all.add(x.guards(n));
            all.add(x.where(5, n, 0));
            all.add(x.wed(0, 1, n));
        }
        all.add(x.rest(0));
        all.add(x.rest(1));
        for (int k = 0; k <= 25 && x.count(4) > 0; k++) {
            all.add(x.undo());
            seePlain(x, all);
        }
        all.add(x.undo());
        for (int k = 0; k <= 1; k++) {
            all.add(x.restore(k));
            seePlain(x, all);
            all.add(x.count(2));
            all.add(x.count(5));
        }
        all.add(x.plain());
        all.add(x.fault());
        seePlain(x, all);
        seeRows(x, all);
        return all;
    }

    private static void seePlain(NightWells x, List<Integer> all) {
        for (int v = 0; v < 4; v++) {
            for (int what : new int[] {0, 3, 4, 5}) {
                all.add(x.village(v, what));
            }
        }
        all.add(x.count(1));
        all.add(x.count(2));
        all.add(x.count(4));
    }

    /** Whether each row is there, its lane, its items (as they stand behind a life), how many. */
    private static void seeRows(NightWells x, List<Integer> all) {
        for (String items : new String[] {"1 2 3", "1 2 3 4 9"}) {
            read(x, "law 0 99;village proud " + items.replace(" ", " 0 0;village proud ") + " 0 0;");
            for (int r = 0; r < 8; r++) {
                all.add(x.drew(r, 0));
            }
        }
        for (int r = 0; r < 8; r++) {
            all.add(x.copy(r, 0, 0, 0, 0));
            all.add(x.copy(r, 0, 1, 0, 0));
        }
        for (int r = 0; r < 8; r++) {
            all.add(x.drop(r));
        }
    }

    private static void dueRefused(String call, Call refused, int answer, State state) {
        NightWells touched = state.make();
        NightWells left = state.make();
        int status = left.status();
        due(call, refused.on(touched), answer);
        boolean found = answer < -1000010 && answer >= -1000015;
        due(call + ", status", touched.status(), found ? -1000010 - answer : status);
        List<Integer> one = seen(touched);
        List<Integer> other = seen(left);
        due(call + ", as much to see", one.size(), other.size());
        for (int k = 0; k < Math.min(one.size(), other.size()); k++) {
            due(call + ", seen " + k, one.get(k), other.get(k));
        }
    }

    /** In every state that is told. */
    private static void dueBad(String call, Call refused) {
        dueRefused(call, refused, BAD, RefusalEdges::fresh);
        dueRefused(call + " with no villages", refused, BAD, RefusalEdges::noVillages);
        dueRefused(call + " behind a life", refused, BAD, RefusalEdges::lived);
        dueRefused(call + " with a full tape", refused, BAD, RefusalEdges::full);
    }

    /** STATE where there is no plain, BAD with one: STATE is ahead. */
    private static void dueStateThenBad(String call, Call refused) {
        dueRefused(call, refused, STATE, RefusalEdges::fresh);
        dueRefused(call + " with no villages", refused, BAD, RefusalEdges::noVillages);
        dueRefused(call + " behind a life", refused, BAD, RefusalEdges::lived);
    }

    private static void rows() {
        dueBad("row(8, 0, 1)", x -> x.row(8, 0, 1));
        dueBad("row(-1, 0, 1)", x -> x.row(-1, 0, 1));
        dueBad("row(0, 3, 1)", x -> x.row(0, 3, 1));
        dueBad("row(0, -1, 1)", x -> x.row(0, -1, 1));
        dueBad("row(0, 0, 41)", x -> x.row(0, 0, 41));
        dueBad("set(8, 0, 1)", x -> x.set(8, 0, 1));
        dueBad("set(-1, 0, 1)", x -> x.set(-1, 0, 1));
        dueBad("copy(8, 0, 0, 0, 1)", x -> x.copy(8, 0, 0, 0, 1));
        dueBad("copy(0, 0, -1, 0, 1)", x -> x.copy(0, 0, -1, 0, 1));
        dueBad("drop(8)", x -> x.drop(8));
        dueBad("drop(-1)", x -> x.drop(-1));
        dueRefused("row(0, 0, -1), missing", x -> x.row(0, 0, -1), SIZE, RefusalEdges::fresh);
        dueRefused("row(0, 2, -1)", x -> x.row(0, 2, -1), SIZE, RefusalEdges::lived);
        dueRefused("set(0, 0, 1), missing", x -> x.set(0, 0, 1), NULL, RefusalEdges::fresh);
        dueRefused("set(3, 0, 1), missing", x -> x.set(3, 0, 1), NULL, RefusalEdges::lived);
        dueRefused("set(0, 5, 1)", x -> x.set(0, 5, 1), PLACE, RefusalEdges::lived);
        dueRefused("set(0, -1, 1)", x -> x.set(0, -1, 1), PLACE, RefusalEdges::lived);
        dueRefused("copy(0, 0, 3, 0, 1), missing", x -> x.copy(0, 0, 3, 0, 1), NULL, RefusalEdges::lived);
        dueRefused("copy(3, 0, 0, 0, 1), missing", x -> x.copy(3, 0, 0, 0, 1), NULL, RefusalEdges::lived);
        dueRefused("copy(1, 0, 2, 0, 1), two lanes", x -> x.copy(1, 0, 2, 0, 1), STORE, RefusalEdges::lived);
        dueRefused("copy(0, 0, 0, 1, 5)", x -> x.copy(0, 0, 0, 1, 5), PLACE, RefusalEdges::lived);
        dueRefused("copy(0, 1, 0, 0, 5)", x -> x.copy(0, 1, 0, 0, 5), PLACE, RefusalEdges::lived);
        dueRefused("copy(0, 0, 0, 1, -1)", x -> x.copy(0, 0, 0, 1, -1), PLACE, RefusalEdges::lived);
        dueRefused("drop(3), missing", x -> x.drop(3), NULL, RefusalEdges::lived);
    }

    private static void plainsAndDays() {
        dueBad("feed(59, 0)", x -> x.feed(59, 0));
        dueBad("feed(59, 9)", x -> x.feed(59, 9));
        dueRefused("feed(59, 1)", x -> x.feed(59, 1), FULL, RefusalEdges::full);
        dueRefused("feed(59, 8)", x -> x.feed(59, 8), FULL, RefusalEdges::full);
        dueStateThenBad("day(-1)", x -> x.day(-1));
        dueStateThenBad("day(100)", x -> x.day(100));
        dueRefused("day(0)", x -> x.day(0), STATE, RefusalEdges::fresh);
        dueStateThenBad("weather(0)", x -> x.weather(0));
        dueStateThenBad("weather(1000000)", x -> x.weather(1000000));
        dueRefused("weather(1)", x -> x.weather(1), STATE, RefusalEdges::fresh);
        dueBad("guard(-1, 1)", x -> x.guard(-1, 1));
        dueBad("guard(4, 1)", x -> x.guard(4, 1));
        dueBad("guard(0, 2)", x -> x.guard(0, 2));
        dueBad("guard(0, -1)", x -> x.guard(0, -1));
        dueRefused("undo()", x -> x.undo(), STATE, RefusalEdges::fresh);
        dueRefused("undo(), of none", x -> x.undo(), STATE, () -> told(PLAIN));
        dueBad("village(-1, 0)", x -> x.village(-1, 0));
        dueBad("village(4, 0)", x -> x.village(4, 0));
        dueBad("village(0, 6)", x -> x.village(0, 6));
        dueBad("village(0, -1)", x -> x.village(0, -1));
    }

    private static void foretold() {
        dueBad("ahead(4, 1, 0)", x -> x.ahead(4, 1, 0));
        dueBad("ahead(0, 61, 0)", x -> x.ahead(0, 61, 0));
        dueBad("ahead(0, -1, 0)", x -> x.ahead(0, -1, 0));
        dueBad("ahead(0, 1, 2)", x -> x.ahead(0, 1, 2));
        dueStateThenBad("first(0)", x -> x.first(0));
        dueStateThenBad("first(61)", x -> x.first(61));
        dueStateThenBad("rest(-1)", x -> x.rest(-1));
        dueStateThenBad("rest(2)", x -> x.rest(2));
        dueStateThenBad("most(0)", x -> x.most(0));
        dueStateThenBad("most(21)", x -> x.most(21));
        dueStateThenBad("guards(0)", x -> x.guards(0));
        dueStateThenBad("guards(21)", x -> x.guards(21));
        dueStateThenBad("drew(8, 0)", x -> x.drew(8, 0));
        dueStateThenBad("drew(-1, 0)", x -> x.drew(-1, 0));
        dueStateThenBad("drew(0, 2)", x -> x.drew(0, 2));
        dueStateThenBad("drew(0, -1)", x -> x.drew(0, -1));
        dueRefused("drew(0, 0)", x -> x.drew(0, 0), STATE, RefusalEdges::fresh);
        dueRefused("drew(3, 0), missing", x -> x.drew(3, 0), NULL, RefusalEdges::lived);
        dueRefused("drew(1, 0), three of four", x -> x.drew(1, 0), PLACE, RefusalEdges::lived);
        for (State none : new State[] {RefusalEdges::fresh, RefusalEdges::noVillages}) {
            dueRefused("where(1, 1, 0)", x -> x.where(1, 1, 0), STATE, none);
            dueRefused("where(0, 1, 0)", x -> x.where(0, 1, 0), STATE, none);
            dueRefused("where(1, 21, 0)", x -> x.where(1, 21, 0), STATE, none);
            dueRefused("where(1, 1, 2)", x -> x.where(1, 1, 2), STATE, none);
        }
        dueRefused("where(0, 1, 0)", x -> x.where(0, 1, 0), BAD, RefusalEdges::lived);
        dueRefused("where(100, 1, 0)", x -> x.where(100, 1, 0), BAD, RefusalEdges::lived);
        dueRefused("where(1, 0, 0)", x -> x.where(1, 0, 0), BAD, RefusalEdges::lived);
        dueRefused("where(1, 21, 0)", x -> x.where(1, 21, 0), BAD, RefusalEdges::lived);
        dueRefused("where(1, 1, 2)", x -> x.where(1, 1, 2), BAD, RefusalEdges::lived);
        dueBad("wed(0, 0, 1)", x -> x.wed(0, 0, 1));
        dueBad("wed(0, 4, 1)", x -> x.wed(0, 4, 1));
        dueBad("wed(-1, 0, 1)", x -> x.wed(-1, 0, 1));
        dueBad("wed(0, 1, 0)", x -> x.wed(0, 1, 0));
        dueBad("wed(0, 1, 21)", x -> x.wed(0, 1, 21));
        dueBad("image(-1)", x -> x.image(-1));
        dueBad("image(2)", x -> x.image(2));
        dueRefused("image(0)", x -> x.image(0), STATE, RefusalEdges::fresh);
        dueBad("restore(-1)", x -> x.restore(-1));
        dueBad("restore(2)", x -> x.restore(2));
        dueRefused("restore(0)", x -> x.restore(0), STATE, RefusalEdges::fresh);
        dueRefused("restore(1), not kept", x -> x.restore(1), STATE, RefusalEdges::noVillages);
    }

    private static void asked() {
        dueBad("kind(4)", x -> x.kind(4));
        dueBad("kind(-1)", x -> x.kind(-1));
        dueBad("as(4, 0)", x -> x.as(4, 0));
        dueBad("as(0, 6)", x -> x.as(0, 6));
        dueBad("as(0, -1)", x -> x.as(0, -1));
        dueRefused("as(0, 2)", x -> x.as(0, 2), KIND, RefusalEdges::lived);
        dueBad("ask(4, 0)", x -> x.ask(4, 0));
        dueBad("ask(-1, 0)", x -> x.ask(-1, 0));
        dueBad("ask(0, 2)", x -> x.ask(0, 2));
        dueBad("ask(0, -1)", x -> x.ask(0, -1));
        dueBad("count(7)", x -> x.count(7));
        dueBad("count(-1)", x -> x.count(-1));
        dueRefused("trace(-1)", x -> x.trace(-1), NONE, RefusalEdges::lived);
        dueRefused("trace(16)", x -> x.trace(16), NONE, RefusalEdges::lived);
    }

    public static void main(String[] args) {
        rows();
        plainsAndDays();
        foretold();
        asked();
        end("what is refused changes nothing");
    }
}
