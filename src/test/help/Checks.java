import java.util.List;

/** What the tests share: how an answer is held against the one that is due, and how plains and rows are told. */
abstract class Checks {
    static final int NONE = -1000000, BAD = -1000001, STATE = -1000002, FULL = -1000003;
    static final int NULL = -1000011, PLACE = -1000012, KIND = -1000013, SIZE = -1000014, STORE = -1000015;
    static final int LOW = Integer.MIN_VALUE, HIGH = Integer.MAX_VALUE;
    static final int BYTES = 0, SHORTS = 1, INTS = 2;
    static final List<String> SORTS = List.of("village", "calm", "lazy", "proud", "strong", "awake");

    private static int wrong = 0;

    static void due(String what, long got, long want) {
        if (got != want) {
            wrong++;
            System.out.println(what + " answered " + got + ", due is " + want);
        }
    }

    /** The last line of a main method. */
    static void end(String allWell) {
        System.out.println(wrong == 0 ? allWell : wrong + " answers are not as due");
        if (wrong != 0) {
            System.exit(1);
        }
    }

    /** Eight bytes a call, that an object's 512 calls last. */
    static void feed(NightWells x, String text) {
        for (int at = 0; at < text.length(); at += 8) {
            int n = Math.min(8, text.length() - at);
            long w = 0;
            for (int k = 0; k < n; k++) {
                w = w << 8 | text.charAt(at + k);
            }
            x.feed(w, n);
        }
    }

    static int read(NightWells x, String text) {
        feed(x, text);
        return x.plain();
    }

    static NightWells told(String text) {
        NightWells x = new NightWells();
        due("plain of " + text, read(x, text), text.split("village ").length - 1);
        return x;
    }

    /** A row of ints with these items. */
    static void tell(NightWells x, int row, int... items) {
        tellIn(x, INTS, row, items);
    }

    static void tellIn(NightWells x, int lane, int row, int... items) {
        x.row(row, lane, items.length);
        for (int i = 0; i < items.length; i++) {
            x.set(row, i, items[i]);
        }
    }

    static void dueFills(String what, NightWells x, int... fills) {
        for (int v = 0; v < fills.length; v++) {
            due(what + ", fill of " + v, x.village(v, 0), fills[v]);
        }
    }

    static void dueTrace(String what, NightWells x, int... numbers) {
        for (int i = 0; i < numbers.length; i++) {
            due(what + ", trace " + i, x.trace(i), numbers[i]);
        }
        due(what + ", behind the trace", x.trace(numbers.length), NONE);
    }

    static void dueFault(String text, int number, int place) {
        NightWells x = new NightWells();
        due("plain of <" + text + ">", read(x, text), -1000100 - place);
        due("fault of <" + text + ">", x.fault(), number);
        due("tape behind <" + text + ">", x.count(6), 0);
        due("no plain by <" + text + ">", x.day(0), STATE);
    }

    /** What stands in a row of a lane from a place on; the plain and row 7 are lost by it. */
    static void dueItems(String what, NightWells x, int lane, int row, int from, int... items) {
        for (int at = 0; at < items.length; at += 7) {
            int n = Math.min(7, items.length - at);
            StringBuilder text = new StringBuilder("law 0 999;");
            for (int k = 0; k < n; k++) {
                text.append("village proud ").append(items[at + k]).append(" 0 0;");
            }
            due(what + ", a plain to look by", read(x, text.toString()), n);
            x.row(7, lane, n);
            due(what + ", items to look at", x.copy(row, from + at, 7, 0, n), n);
            due(what + ", items from " + (from + at) + " on", x.drew(7, 0), 1 << n);
        }
    }
}
