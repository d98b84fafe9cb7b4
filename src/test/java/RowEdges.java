/** What the document says of ROWS, LANES and ITEMS (promises 2 to 5), each sentence at its edges. */
public final class RowEdges extends Checks {
    private static final int[] NO_ROWS = {-1, 8, LOW, HIGH};

    /** "ROWS 0 .. 7 are missing (at first)". */
    private static void missingAtFirst() {
        NightWells x = told("law 1 9;");
        due("at first, rows", x.count(0), 0);
        for (int r = 0; r < 8; r++) {
            due("at first, set in row " + r, x.set(r, 0, 1), NULL);
            due("at first, drop of row " + r, x.drop(r), NULL);
            due("at first, copy from row " + r, x.copy(r, 0, r, 0, 0), NULL);
            due("at first, drew by row " + r, x.drew(r, 0), NULL);
        }
        due("still no rows", x.count(0), 0);
    }

    /** "ROWS 0 .. 7": the first, the last, and what is beyond on either side. */
    private static void rowsThereAre() {
        NightWells x = told("law 1 9;");
        for (int r = 0; r < 8; r++) {
            due("row " + r, x.row(r, INTS, r), r);
            due("rows up to " + r, x.count(0), r + 1);
        }
        for (int r : NO_ROWS) {
            due("row " + r, x.row(r, INTS, 1), BAD);
            due("set in row " + r, x.set(r, 0, 1), BAD);
            due("drop of row " + r, x.drop(r), BAD);
            due("copy from row " + r, x.copy(r, 0, 1, 0, 0), BAD);
            due("copy to row " + r, x.copy(1, 0, r, 0, 0), BAD);
            due("drew by row " + r, x.drew(r, 0), BAD);
        }
        due("rows behind that", x.count(0), 8);
        for (int r = 0; r < 8; r++) {
            due("drop of row " + r, x.drop(r), r);
            due("rows behind " + r, x.count(0), 7 - r);
        }
    }

    /** "a LANE (0 bytes, 1 shorts, 2 ints)". */
    private static void lanesThereAre() {
        NightWells x = new NightWells();
        for (int lane = 0; lane <= 2; lane++) {
            due("row of lane " + lane, x.row(lane, lane, 1), 1);
        }
        for (int lane : new int[] {-1, 3, LOW, HIGH}) {
            due("row of lane " + lane, x.row(5, lane, 1), BAD);
        }
        due("rows", x.count(0), 3);
        due("no row by a lane that is none", x.drop(5), NULL);
    }

    /** "0 to 40 ITEMS"; "n above 40" is BAD, "fewer than none" is SIZE. */
    private static void itemsThereMayBe() {
        NightWells x = new NightWells();
        for (int lane = 0; lane <= 2; lane++) {
            due("none", x.row(0, lane, 0), 0);
            due("none, dropped", x.drop(0), 0);
            due("one", x.row(0, lane, 1), 1);
            due("39", x.row(0, lane, 39), 39);
            due("39, dropped", x.drop(0), 39);
            due("40", x.row(0, lane, 40), 40);
            due("40, dropped", x.drop(0), 40);
            due("41", x.row(0, lane, 41), BAD);
            due("far above", x.row(0, lane, HIGH), BAD);
            due("one fewer than none", x.row(0, lane, -1), SIZE);
            due("status", x.status(), 4);
            due("far fewer than none", x.row(0, lane, LOW), SIZE);
            due("no row by these", x.drop(0), NULL);
        }
    }

    /** "no such place of a ROW": ahead of the first item, the first, the last, behind the last. */
    private static void placesThereAre() {
        NightWells x = new NightWells();
        for (int n : new int[] {1, 2, 39, 40}) {
            x.row(0, INTS, n);
            due("place 0 of " + n, x.set(0, 0, 5), 5);
            due("the last place of " + n, x.set(0, n - 1, 6), 6);
            due("place " + n + " of " + n, x.set(0, n, 7), PLACE);
            due("status", x.status(), 2);
            due("place -1 of " + n, x.set(0, -1, 7), PLACE);
            due("place far below of " + n, x.set(0, LOW, 7), PLACE);
            due("place far above of " + n, x.set(0, HIGH, 7), PLACE);
        }
        x.row(0, INTS, 0);
        due("place 0 of none", x.set(0, 0, 5), PLACE);
        due("place -1 of none", x.set(0, -1, 5), PLACE);
    }

    /** "0 at first". */
    private static void zeroAtFirst() {
        for (int lane = 0; lane <= 2; lane++) {
            NightWells x = new NightWells();
            x.row(0, lane, 40);
            dueItems("lane " + lane, x, lane, 0, 0, new int[40]);
        }
    }

    /** "A ROW of a LANE with n ITEMS, in place of what is there": its items are 0, too. */
    private static void inPlaceOfWhatIsThere() {
        NightWells x = new NightWells();
        x.row(0, BYTES, 40);
        for (int i = 0; i < 40; i++) {
            x.set(0, i, i + 1);
        }
        due("anew", x.row(0, BYTES, 40), 40);
        dueItems("anew", x, BYTES, 0, 0, new int[40]);
        for (int i = 0; i < 40; i++) {
            x.set(0, i, i + 1);
        }
        due("shorter", x.row(0, BYTES, 3), 3);
        due("nothing behind its end", x.set(0, 3, 1), PLACE);
        due("longer again", x.row(0, BYTES, 40), 40);
        dueItems("longer again", x, BYTES, 0, 0, new int[40]);
        due("rows", x.count(0), 2);
        NightWells y = new NightWells();
        tellIn(y, INTS, 0, 70000, 5);
        due("another lane", y.row(0, BYTES, 2), 2);
        due("another lane holds bytes", y.set(0, 1, 256 + 9), 9);
        dueItems("another lane", y, BYTES, 0, 0, 0, 9);
        tellIn(y, BYTES, 0, 5, 5);
        due("dropped", y.drop(0), 2);
        due("there again", y.row(0, BYTES, 2), 2);
        dueItems("there again", y, BYTES, 0, 0, 0, 0);
    }

    /** "its lowest bits, as many as the LANE has (read with their sign)". */
    private static void lowestBits() {
        NightWells x = new NightWells();
        x.row(0, BYTES, 1);
        x.row(1, SHORTS, 1);
        x.row(2, INTS, 1);
        int[][] bytes = {{0, 0}, {127, 127}, {128, -128}, {129, -127}, {255, -1}, {256, 0}, {257, 1}, {-1, -1}, {-128, -128},
            {-129, 127}, {-255, 1}, {-256, 0}, {-257, -1}, {HIGH, -1}, {LOW, 0}, {0x12345680, -128}};
        for (int[] of : bytes) {
            due("byte of " + of[0], x.set(0, 0, of[0]), of[1]);
        }
        int[][] shorts = {{0, 0}, {32767, 32767}, {32768, -32768}, {32769, -32767}, {65535, -1}, {65536, 0}, {65537, 1}, {-1, -1},
            {-32768, -32768}, {-32769, 32767}, {-65535, 1}, {-65536, 0}, {-65537, -1}, {128, 128}, {HIGH, -1}, {LOW, 0}};
        for (int[] of : shorts) {
            due("short of " + of[0], x.set(1, 0, of[0]), of[1]);
        }
        for (int of : new int[] {0, 1, -1, 128, 32768, 65536, HIGH, LOW, HIGH - 1, LOW + 1}) {
            due("int of " + of, x.set(2, 0, of), of);
        }
    }

    /** "ITEM i becomes v": this one, and no other. */
    private static void oneItemBecomes() {
        NightWells x = new NightWells();
        tell(x, 0, 1, 2, 3, 4, 5);
        tell(x, 1, 1, 2, 3, 4, 5);
        due("the first", x.set(0, 0, 900), 900);
        due("one between", x.set(0, 2, 800), 800);
        due("the last", x.set(0, 4, 700), 700);
        dueItems("these three", x, INTS, 0, 0, 900, 2, 800, 4, 700);
        dueItems("the other row", x, INTS, 1, 0, 1, 2, 3, 4, 5);
    }

    /** "n ITEMS of a from i on come to b from j on": these, and nothing before or behind them. */
    private static void itemsCome() {
        NightWells x = new NightWells();
        tell(x, 0, 11, 12, 13, 14, 15);
        tell(x, 1, 21, 22, 23, 24, 25, 26);
        due("two", x.copy(0, 3, 1, 1, 2), 2);
        dueItems("two", x, INTS, 1, 0, 21, 14, 15, 24, 25, 26);
        dueItems("where they came from", x, INTS, 0, 0, 11, 12, 13, 14, 15);
        due("to the last place", x.copy(0, 0, 1, 5, 1), 1);
        dueItems("to the last place", x, INTS, 1, 0, 21, 14, 15, 24, 25, 11);
        due("none", x.copy(0, 0, 1, 0, 0), 0);
        due("none, from behind the last on", x.copy(0, 5, 1, 0, 0), 0);
        due("none, to behind the last", x.copy(0, 0, 1, 6, 0), 0);
        due("none, both", x.copy(0, 5, 1, 6, 0), 0);
        dueItems("nothing by none", x, INTS, 1, 0, 21, 14, 15, 24, 25, 11);
        due("all of it", x.copy(0, 0, 1, 0, 5), 5);
        dueItems("all of it", x, INTS, 1, 0, 11, 12, 13, 14, 15, 11);
        x.row(2, INTS, 0);
        due("none of none", x.copy(2, 0, 2, 0, 0), 0);
    }

    /** As many as there may be: forty. */
    private static void fortyItemsCome() {
        for (int lane = 0; lane <= 2; lane++) {
            NightWells x = new NightWells();
            int[] items = new int[40];
            for (int i = 0; i < 40; i++) {
                items[i] = 3 * i + 1;
            }
            tellIn(x, lane, 0, items);
            x.row(1, lane, 40);
            due("forty", x.copy(0, 0, 1, 0, 40), 40);
            due("forty and one", x.copy(0, 0, 1, 0, 41), PLACE);
            dueItems("forty in lane " + lane, x, lane, 1, 0, items);
        }
    }

    /** "as they were ahead": also where both ROWS are one, and the places lie over one another. */
    private static void asTheyWereAhead() {
        NightWells x = new NightWells();
        tell(x, 0, 1, 2, 3, 4, 5, 6);
        due("up by one", x.copy(0, 0, 0, 1, 5), 5);
        dueItems("up by one", x, INTS, 0, 0, 1, 1, 2, 3, 4, 5);
        tell(x, 0, 1, 2, 3, 4, 5, 6);
        due("down by one", x.copy(0, 1, 0, 0, 5), 5);
        dueItems("down by one", x, INTS, 0, 0, 2, 3, 4, 5, 6, 6);
        tell(x, 0, 1, 2, 3, 4, 5, 6);
        due("up by three", x.copy(0, 0, 0, 3, 3), 3);
        dueItems("up by three", x, INTS, 0, 0, 1, 2, 3, 1, 2, 3);
        tell(x, 0, 1, 2, 3, 4, 5, 6);
        due("onto itself", x.copy(0, 0, 0, 0, 6), 6);
        dueItems("onto itself", x, INTS, 0, 0, 1, 2, 3, 4, 5, 6);
        tellIn(x, BYTES, 0, 1, 2, 3, 4, 5, 6);
        due("bytes, up by two", x.copy(0, 0, 0, 2, 4), 4);
        dueItems("bytes, up by two", x, BYTES, 0, 0, 1, 2, 1, 2, 3, 4);
        tellIn(x, SHORTS, 0, 1, 2, 3, 4, 5, 6);
        due("shorts, up by two", x.copy(0, 0, 0, 2, 4), 4);
        dueItems("shorts, up by two", x, SHORTS, 0, 0, 1, 2, 1, 2, 3, 4);
    }

    /** "PLACE (i, j, n below 0, or beyond an end)". */
    private static void copyBeyondAnEnd() {
        NightWells x = new NightWells();
        tell(x, 0, 1, 2, 3, 4);
        tell(x, 1, 5, 6, 7);
        int[][] beyond = {{-1, 0, 1}, {0, -1, 1}, {0, 0, -1}, {-1, 0, 0}, {0, -1, 0}, {1, 1, -1}, {4, 0, 1}, {5, 0, 0}, {0, 3, 1},
            {0, 4, 0}, {0, 0, 4}, {2, 0, 3}, {0, 1, 3}, {1, 2, 2}, {0, 0, 5}, {LOW, 0, 0}, {0, LOW, 0}, {0, 0, LOW}, {HIGH, 0, 0},
            {0, HIGH, 0}, {0, 0, HIGH}, {1, 0, HIGH}, {0, 1, HIGH}, {HIGH, HIGH, HIGH}, {HIGH, 0, 1}, {0, HIGH, 1}, {HIGH, HIGH, 2},
            {LOW, LOW, LOW}, {LOW, 0, HIGH}, {1, 1, LOW}, {4, 3, LOW}, {-1, -1, HIGH}};
        for (int[] at : beyond) {
            String call = "copy(0, " + at[0] + ", 1, " + at[1] + ", " + at[2] + ")";
            due(call, x.copy(0, at[0], 1, at[1], at[2]), PLACE);
            due("status behind " + call, x.status(), 2);
        }
        dueItems("nothing came of it", x, INTS, 1, 0, 5, 6, 7);
        due("just to the end", x.copy(0, 1, 1, 0, 3), 3);
        dueItems("just to the end", x, INTS, 1, 0, 2, 3, 4);
    }

    /** "STORE (ROWS of two LANES)": also of no items; behind NULL, ahead of PLACE. */
    private static void copyOfTwoLanes() {
        NightWells x = new NightWells();
        for (int lane = 0; lane <= 2; lane++) {
            x.row(lane, lane, 2);
            x.row(3 + lane, lane, 2);
        }
        for (int a = 0; a <= 2; a++) {
            for (int b = 0; b <= 2; b++) {
                String both = "lanes " + a + " and " + b;
                due(both, x.copy(a, 0, 3 + b, 0, 2), a == b ? 2 : STORE);
                due(both + ", status", x.status(), a == b ? 0 : 5);
                due(both + ", none", x.copy(a, 0, 3 + b, 0, 0), a == b ? 0 : STORE);
                due(both + ", ahead of PLACE", x.copy(a, -1, 3 + b, 9, -1), a == b ? PLACE : STORE);
                due(both + ", behind NULL", x.copy(a, 0, 6, 0, 0), NULL);
                due(both + ", behind NULL", x.copy(6, 0, 3 + b, 0, 0), NULL);
            }
        }
    }

    /** "NULL (a ROW that is missing)": ahead of PLACE; behind BAD. */
    private static void missingRows() {
        NightWells x = new NightWells();
        x.row(0, INTS, 2);
        due("set", x.set(1, 0, 0), NULL);
        due("set, no such place", x.set(1, -1, 0), NULL);
        due("set, no such row", x.set(-1, -1, 0), BAD);
        due("copy from", x.copy(1, 0, 0, 0, 1), NULL);
        due("copy to", x.copy(0, 0, 1, 0, 1), NULL);
        due("copy from, no such place", x.copy(1, 0, 0, 9, 1), NULL);
        due("copy to, no such place", x.copy(0, -1, 1, 0, 1), NULL);
        due("copy, neither", x.copy(1, 0, 2, 0, 1), NULL);
        due("copy, no such row", x.copy(1, 0, 8, 0, 1), BAD);
        due("copy, no such row", x.copy(-1, 0, 1, 0, 1), BAD);
        due("drop", x.drop(1), NULL);
        due("drop", x.drop(0), 2);
        due("dropped twice", x.drop(0), NULL);
        due("dropped, set", x.set(0, 0, 0), NULL);
        due("dropped, copy", x.copy(0, 0, 0, 0, 0), NULL);
    }

    /** "BAD: ROW, LANE, n above 40; SIZE": BAD is ahead. */
    private static void badAheadOfSize() {
        NightWells x = new NightWells();
        due("row and size", x.row(-1, INTS, -1), BAD);
        due("row and size", x.row(8, INTS, -1), BAD);
        due("lane and size", x.row(0, -1, -1), BAD);
        due("lane and size", x.row(0, 3, -1), BAD);
        due("status", x.status(), 0);
        due("size alone", x.row(7, BYTES, -1), SIZE);
    }

    public static void main(String[] args) {
        missingAtFirst();
        rowsThereAre();
        lanesThereAre();
        itemsThereMayBe();
        placesThereAre();
        zeroAtFirst();
        inPlaceOfWhatIsThere();
        lowestBits();
        oneItemBecomes();
        itemsCome();
        fortyItemsCome();
        asTheyWereAhead();
        copyBeyondAnEnd();
        copyOfTwoLanes();
        missingRows();
        badAheadOfSize();
        end("all edges of rows hold");
    }
}
