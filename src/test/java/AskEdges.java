/** What the document says of KINDS, ASKS, THE TRACE, counts and status() (promises 24 to 29), each sentence at its edges. */
public final class AskEdges extends Checks {
    private static final String EACH = "law 7 999;village calm 500 9 0;village lazy 30 8 0;village proud 40 7 0;"
            + "village strong 50 6 0;village awake 60 5 0;";
    private static final int[] BEYOND = {-1, 2, LOW, HIGH};

    /** "KINDS: 1 CALM .. 5 AWAKE", as told, in each place; promise 24: BAD. */
    private static void kindsAsTold() {
        for (int kind = 1; kind <= 5; kind++) {
            for (int v = 0; v < 7; v++) {
                StringBuilder text = new StringBuilder("law 1 9;");
                for (int u = 0; u < 7; u++) {
                    text.append("village ").append(SORTS.get(u == v ? kind : kind % 5 + 1)).append(" 0 0 0;");
                }
                NightWells x = told(text.toString());
                for (int u = 0; u < 7; u++) {
                    due("kind of " + u + " in " + text, x.kind(u), u == v ? kind : kind % 5 + 1);
                }
            }
        }
        NightWells x = told(EACH);
        for (int v : new int[] {-1, 5, 6, 7, LOW, HIGH}) {
            due("kind of " + v, x.kind(v), BAD);
        }
        due("kind, no plain", new NightWells().kind(0), BAD);
        due("kind, no villages", told("law 1 9;").kind(0), BAD);
    }

    /** "0 VILLAGE; 1 CALM, a VILLAGE; 2 LAZY, a CALM one; 3 PROUD, a CALM one; 4 STRONG, a VILLAGE; 5 AWAKE, a STRONG one". */
    private static void takenAsAKind() {
        NightWells x = told(EACH);
        String[] are = {"110000", "111000", "110100", "100010", "100011"};
        for (int v = 0; v < 5; v++) {
            for (int kind = 0; kind <= 5; kind++) {
                boolean is = are[v].charAt(kind) == '1';
                due(v + " as " + kind, x.as(v, kind), is ? v : KIND);
                due(v + " as " + kind + ", status", x.status(), is ? 0 : 3);
                due(v + " as " + kind + ", kind stays", x.kind(v), v + 1);
            }
        }
        x.as(0, 5);
        for (int kind : new int[] {-1, 6, LOW, HIGH}) {
            due("as " + kind, x.as(0, kind), BAD);
        }
        for (int v : new int[] {-1, 5, 7, LOW, HIGH}) {
            due(v + " as 0", x.as(v, 0), BAD);
            due(v + " as 2, BAD ahead of KIND", x.as(v, 2), BAD);
        }
        due("status by these", x.status(), 3);
        due("as, no plain", new NightWells().as(0, 0), BAD);
        due("as, no villages", told("law 1 9;").as(0, 0), BAD);
    }

    /** The bodies of SIZE and MARK, by each KIND, at the first place and at the last of seven. */
    private static void bodies() {
        int[][] sizes = {{11, 10, 21, 20}, {12, 11, 10, 24, 21, 20}, {11, 10, 22, 21, 20}, {13, 10}, {14, 13, 10}};
        int[][] marks = {{21, 20}, {24, 21, 20}, {22, 21, 20}, {23, 20, 13, 10}, {23, 20, 14, 13, 10}};
        for (int v = 0; v < 7; v++) {
            for (int kind = 1; kind <= 5; kind++) {
                for (int fill : new int[] {0, 100, 999}) {
                    for (int flow : new int[] {0, 99}) {
                        StringBuilder text = new StringBuilder("law 1 999;");
                        for (int u = 0; u < v; u++) {
                            text.append("village calm 1 1 1;");
                        }
                        text.append("village ").append(SORTS.get(kind)).append(' ').append(fill).append(' ').append(flow).append(" 0;");
                        NightWells x = told(text.toString());
                        String what = SORTS.get(kind) + " at " + v + ", " + fill + " " + flow;
                        int[] size = {fill + v + flow, -(fill + 2 * (v + flow)), fill + v + flow - 1000, fill - 100, 2 * (fill - 100)};
                        int[] mark = {v + flow, 2 * (v + flow), v + flow - 1000, v - (fill - 100), v - 2 * (fill - 100)};
                        due("size of " + what, x.ask(v, 0), size[kind - 1]);
                        dueTrace("size of " + what, x, sizes[kind - 1]);
                        due("mark of " + what, x.ask(v, 1), mark[kind - 1]);
                        dueTrace("mark of " + what, x, marks[kind - 1]);
                    }
                }
            }
        }
    }

    /** "FILL" and "FLOW": as they are now. */
    private static void asItIsNow() {
        NightWells x = told("law 0 99;village strong 3 4 0;village calm 0 2 0;");
        x.day(10);
        due("size by now", x.ask(0, 0), 17 - 100);
        due("size by now, calm", x.ask(1, 0), 12 + 1 + 2);
        x.undo();
        due("size as it was", x.ask(0, 0), 3 - 100);
        x.guard(0, 1);
        due("size, guarding", x.ask(0, 0), 3 - 100);
    }

    /** "ASK (0, 1) of a VILLAGE. BAD. THE TRACE is empty ahead of it (where that is refused it stays)". */
    private static void askedAnew() {
        NightWells x = told(EACH);
        dueTrace("before the first", x);
        x.ask(1, 0);
        dueTrace("a long one", x, 12, 11, 10, 24, 21, 20);
        x.ask(3, 0);
        dueTrace("a short one behind it", x, 13, 10);
        for (int what : BEYOND) {
            due("ask " + what, x.ask(0, what), BAD);
        }
        for (int v : new int[] {-1, 5, 6, 7, LOW, HIGH}) {
            due("ask of " + v, x.ask(v, 0), BAD);
            due("mark of " + v, x.ask(v, 1), BAD);
        }
        dueTrace("refused, it stays", x, 13, 10);
        NightWells none = new NightWells();
        due("no plain", none.ask(0, 0), BAD);
        dueTrace("no plain", none);
        due("no villages", told("law 1 9;").ask(0, 1), BAD);
        x.day(0);
        x.undo();
        x.as(0, 0);
        x.kind(0);
        read(x, "law 1 9;village calm 0 0 0;");
        dueTrace("other calls leave it", x, 13, 10);
        for (int k = 0; k < 20; k++) {
            x.ask(0, 1);
        }
        dueTrace("twenty asks, the latest", x, 21, 20);
    }

    /** "trace: number i of THE TRACE; NONE"; "the first 16". */
    private static void numbersOfTheTrace() {
        NightWells x = told(EACH);
        for (int i : new int[] {-1, 0, 1, 15, 16, 17, LOW, HIGH}) {
            due("empty, trace " + i, x.trace(i), NONE);
        }
        x.ask(1, 0);
        int[] numbers = {12, 11, 10, 24, 21, 20};
        for (int i = -3; i <= 20; i++) {
            due("trace " + i, x.trace(i), i >= 0 && i < 6 ? numbers[i] : NONE);
        }
        for (int i : new int[] {LOW, HIGH, 1 << 16, -(1 << 16)}) {
            due("trace " + i, x.trace(i), NONE);
        }
    }

    /** "count: how many: 0 ROWS .. 6 bytes on the tape. BAD". */
    private static void counts() {
        NightWells x = new NightWells();
        for (int what = 0; what <= 6; what++) {
            due("at first, count " + what, x.count(what), 0);
        }
        for (int what : new int[] {-1, 7, LOW, HIGH}) {
            due("at first, count " + what, x.count(what), BAD);
        }
        for (int r = 0; r < 8; r++) {
            x.row(r, r % 3, 0);
            due("rows of no items, too", x.count(0), r + 1);
        }
        x.row(3, 0, 40);
        due("one anew", x.count(0), 8);
        x.drop(3);
        x.drop(3);
        due("one dropped", x.count(0), 7);
        read(x, "law 0 999;" + "village proud 999 0 99;".repeat(7));
        due("villages", x.count(1), 7);
        due("wells, brimful", x.count(3), 7 * 999);
        for (int d = 0; d < 20; d++) {
            x.day(0);
        }
        due("days", x.count(2), 20);
        due("wells, empty", x.count(3), 0);
        due("acts", x.count(4), 20);
        due("lacked", x.count(5), 7 * (20 * 99 - 999));
        for (int d = 0; d < 20; d++) {
            x.day(0);
        }
        due("acts at most", x.count(4), 24);
        due("days more", x.count(2), 40);
        due("lacked more", x.count(5), 7 * (40 * 99 - 999));
        x.feed(32, 8);
        due("tape", x.count(6), 8);
        feed(x, " ".repeat(392));
        due("tape, full", x.count(6), 400);
        x.plain();
        due("tape, read", x.count(6), 0);
        for (int what : new int[] {-1, 7, LOW, HIGH}) {
            due("count " + what, x.count(what), BAD);
        }
        due("no villages", told("law 1 9;").count(1), 0);
    }

    /** "status: of the latest call with a ROW, or as(), that was not BAD, STATE, FULL"; "0: it had none, or there was none". */
    private static void statusOfTheLatest() {
        NightWells x = new NightWells();
        due("there was none", x.status(), 0);
        due("NULL", x.drop(0), NULL);
        due("NULL, status", x.status(), 1);
        due("SIZE", x.row(0, 0, -1), SIZE);
        due("the latest", x.status(), 4);
        due("told twice", x.status(), 4);
        due("STATE", x.drew(0, 0), STATE);
        due("STATE, status", x.status(), 4);
        due("BAD", x.row(8, 0, -1) + x.set(8, 0, 0) + x.copy(8, 0, 0, 0, 0) + x.drop(8) + x.as(0, 0), 5 * BAD);
        due("BAD, status", x.status(), 4);
        feed(x, " ".repeat(400));
        due("FULL", x.feed(1, 1), FULL);
        due("FULL, status", x.status(), 4);
        x.plain();
        read(x, EACH);
        x.day(0);
        x.ask(0, 0);
        x.kind(0);
        x.image(0);
        x.restore(0);
        due("calls without a row", x.status(), 4);
        due("drew, BAD", x.drew(8, 0) + x.drew(0, 2), 2 * BAD);
        due("drew, BAD, status", x.status(), 4);
        due("as, BAD", x.as(0, 6) + x.as(5, 0), 2 * BAD);
        due("as, BAD, status", x.status(), 4);
    }

    /** Each call that may set it, with a finding and without one. */
    private static void statusOfEach() {
        NightWells x = told("law 0 9;village calm 0 0 0;");
        for (int round = 0; round < 2; round++) {
            dueStatus("row, SIZE", x, x.row(0, 0, -1), 4);
            dueStatus("row", x, x.row(0, 0, 3), 0);
            dueStatus("set, PLACE", x, x.set(0, 3, 0), 2);
            dueStatus("set", x, x.set(0, 2, 0), 0);
            dueStatus("set, NULL", x, x.set(1, 3, 0), 1);
            dueStatus("copy", x, x.copy(0, 0, 0, 1, 2), 0);
            dueStatus("copy, NULL", x, x.copy(0, 0, 1, 1, 2), 1);
            dueStatus("copy of none", x, x.copy(0, 3, 0, 3, 0), 0);
            dueStatus("copy, PLACE", x, x.copy(0, 0, 0, 1, 3), 2);
            dueStatus("row, of another lane", x, x.row(2, 1, 0), 0);
            dueStatus("copy, STORE", x, x.copy(0, 0, 2, 0, 0), 5);
            dueStatus("drew", x, x.drew(0, 0), 0);
            dueStatus("drew, PLACE", x, x.drew(2, 0), 2);
            dueStatus("drop", x, x.drop(2), 0);
            dueStatus("drew, NULL", x, x.drew(2, 0), 1);
            dueStatus("as", x, x.as(0, 1), 0);
            dueStatus("as, KIND", x, x.as(0, 2), 3);
            dueStatus("drew, NONE", x, x.drew(0, 0), 0);
            dueStatus("drop, NULL", x, x.drop(2), 1);
        }
    }

    private static void dueStatus(String call, NightWells x, int answer, int finding) {
        due(call + ", a finding", answer <= -1000011 ? -1000010 - answer : 0, finding);
        due(call + ", status", x.status(), finding);
    }

    public static void main(String[] args) {
        kindsAsTold();
        takenAsAKind();
        bodies();
        asItIsNow();
        askedAnew();
        numbersOfTheTrace();
        counts();
        statusOfTheLatest();
        statusOfEach();
        end("all edges of what is asked hold");
    }
}
