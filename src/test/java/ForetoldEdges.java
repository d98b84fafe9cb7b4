/** What the document says of all that is FORETOLD, of WEDDINGS and IMAGES (promises 14 to 23), each sentence at its edges. */
public final class ForetoldEdges extends Checks {
    private static final int[] BEYOND = {-1, 2, LOW, HIGH};

    private static String law(int night, int room, String... villages) {
        StringBuilder text = new StringBuilder("law " + night + " " + room + ";");
        for (String v : villages) {
            text.append("village ").append(v).append(';');
        }
        return text.toString();
    }

    private static NightWells none() {
        return told("law 1 9;");
    }

    /** "AHEAD by n DAYS (0 to 60): FILL of a VILLAGE, what it LACKED in them". */
    private static void aheadDays() {
        NightWells x = told(law(0, 999, "proud 5 3 2", "proud 100 0 2", "proud 0 1 4"));
        for (int n = 0; n <= 60; n++) {
            due("ahead by " + n, x.ahead(0, n, 0), 5 + n);
            due("ahead by " + n + ", lacked", x.ahead(0, n, 1), 0);
            due("ahead by " + n + ", the second", x.ahead(1, n, 0), Math.max(0, 100 - 2 * n));
            due("ahead by " + n + ", the second, lacked", x.ahead(1, n, 1), Math.max(0, 2 * n - 100));
            due("ahead by " + n + ", the last, lacked", x.ahead(2, n, 1), 3 * n);
        }
        for (int n : new int[] {-1, 61, LOW, HIGH}) {
            due("ahead by " + n, x.ahead(0, n, 0), BAD);
            due("ahead by " + n + ", lacked", x.ahead(0, n, 1), BAD);
        }
        for (int v : new int[] {-1, 3, 7, LOW, HIGH}) {
            due("ahead of " + v, x.ahead(v, 0, 0), BAD);
        }
        for (int what : BEYOND) {
            due("ahead, what " + what, x.ahead(0, 0, what), BAD);
        }
        due("no plain", new NightWells().ahead(0, 0, 0), BAD);
        due("no villages", none().ahead(0, 0, 0), BAD);
    }

    /** "what it LACKED in them": not what it lacked before; "without RAIN", whatever rain there was. */
    private static void fromNowOn() {
        NightWells x = told(law(0, 99, "proud 0 1 4", "proud 50 0 5"));
        x.day(0);
        x.day(2);
        due("lacked before", x.village(0, 4), 4);
        due("not before", x.ahead(0, 0, 1), 0);
        due("in them", x.ahead(0, 2, 1), 6);
        x.day(99);
        due("full then", x.ahead(0, 0, 0), 95);
        due("without rain", x.ahead(0, 1, 0), 92);
        x.weather(1);
        due("without a seed's rain", x.ahead(1, 4, 0), 94 - 20);
        due("first, without rain", x.first(60), 18);
    }

    /** "FIRST: in which of the next n DAYS (1 to 60; 0: the first) anybody LACKS; NONE". */
    private static void firstDays() {
        for (int days : new int[] {0, 1, 2, 58, 59, 60}) {
            NightWells x = told(law(0, 999, "proud 999 0 0", "proud " + 10 * days + " 0 10"));
            for (int n = 1; n <= 60; n++) {
                due("enough for " + days + ", first of " + n, x.first(n), days < n ? days : NONE);
            }
        }
        NightWells x = told(law(0, 9, "proud 0 0 1"));
        for (int n : new int[] {0, -1, 61, LOW, HIGH}) {
            due("first of " + n, x.first(n), BAD);
            due("no plain, first of " + n, new NightWells().first(n), STATE);
        }
        due("no plain, first of 1", new NightWells().first(1), STATE);
        due("no villages", none().first(60), NONE);
        for (int v = 0; v < 7; v++) {
            String[] all = new String[7];
            for (int u = 0; u < 7; u++) {
                all[u] = "proud 9 " + (u == v ? "0 5" : "1 1");
            }
            due("anybody, " + v, told(law(0, 9, all)).first(60), 1);
        }
    }

    /** "REST: the fewest DAYS (0 to 60) from now on behind which a DAY leaves all FILLS as they are; NONE". */
    private static void restDays() {
        for (int days : new int[] {0, 1, 2, 30, 59, 60}) {
            due("rest behind " + days, told(law(0, 99, "proud 9 1 1", "proud " + (99 - days) + " 1 0")).rest(0), days);
            due("rest behind " + days + ", falling", told(law(0, 99, "proud " + days + " 0 1")).rest(0), days);
        }
        due("rest behind 61", told(law(0, 99, "proud 38 1 0")).rest(0), NONE);
        due("rest behind 61, falling", told(law(0, 99, "proud 61 0 1")).rest(0), NONE);
        due("the last one of all", told(law(0, 99, "proud 99 1 0", "proud 97 1 0", "proud 92 1 0")).rest(0), 7);
        NightWells x = told(law(0, 99, "proud 20 1 0"));
        x.day(50);
        due("from now on", x.rest(0), 28);
        due("though somebody lacks", told(law(0, 9, "proud 0 0 9")).rest(0), 0);
        due("though all is drawn by night", told(law(4, 50, "calm 0 0 0", "calm 10 0 0")).rest(0), 0);
        due("no villages", none().rest(0), 0);
        due("no plain", new NightWells().rest(0), STATE);
        for (int what : BEYOND) {
            due("rest " + what, x.rest(what), BAD);
            due("no plain, rest " + what, new NightWells().rest(what), STATE);
        }
    }

    /** "RING: the fewest DAYS (1 to 60) behind which all FILLS are as now; NONE". */
    private static void ringDays() {
        due("at rest: the least", told(law(0, 99, "proud 9 1 1")).rest(1), 1);
        due("never", told(law(0, 99, "proud 9 1 0")).rest(1), NONE);
        due("soon at rest, but not as now", told(law(0, 99, "proud 98 1 0")).rest(1), NONE);
        due("no villages", none().rest(1), 1);
        due("no plain", new NightWells().rest(1), STATE);
        String[] rings = {
            "law 54 13;village lazy 0 3 6;village strong 2 3 3;village calm 3 10 10;",
            "law 52 40;village calm 0 9 1;village strong 36 1 11;village calm 8 6 4;village strong 16 2 2;",
            "law 44 26;village calm 0 1 4;village calm 0 11 4;village calm 12 6 10;village calm 19 1 8;village strong 15 11 7;",
            "law 48 33;village calm 0 5 11;village lazy 24 2 3;village strong 9 8 0;village strong 8 1 9;village strong 22 7 5;village lazy 11 10 11;",
            "law 17 15;village strong 0 6 2;village calm 9 4 11;village strong 3 8 2;village lazy 6 3 8;village strong 11 0 5;"
                + "village strong 7 4 0;village calm 4 7 4;"};
        for (int k = 0; k < rings.length; k++) {
            int round = k + 2;
            NightWells x = told(rings[k]);
            for (int d = 0; d < 2 * round; d++) {
                due("ring of " + round + " on day " + d, x.rest(1), round);
                due("no rest on day " + d, x.rest(0), NONE);
                boolean all = true;
                for (int v = 0; v < x.count(1); v++) {
                    all &= x.ahead(v, round, 0) == x.village(v, 0);
                }
                due("foretold on day " + d, all ? 1 : 0, 1);
                x.day(0);
            }
        }
        NightWells away = told(rings[0]);
        away.day(50);
        due("away from the ring", away.rest(1), NONE);
    }

    /** "MOST: the greatest NIGHT (0 to 99) by which nobody LACKS in n DAYS (1 to 20); NONE". */
    private static void mostByNight() {
        for (int spare : new int[] {0, 1, 50, 98, 99, 100}) {
            NightWells x = told(law(7, 999, "calm 0 0 0", "proud " + (20 + spare) + " 0 10"));
            due("one day, " + spare + " to spare", x.most(1), 99);
            due("two days, " + spare + " to spare", x.most(2), Math.min(99, spare));
            due("three days, " + spare + " to spare", x.most(3), spare < 10 ? NONE : (spare - 10) / 2);
        }
        NightWells x = told(law(50, 999, "calm 0 0 0", "proud 30 0 10"));
        due("three days", x.most(3), 0);
        due("four days", x.most(4), NONE);
        due("its own night stays", x.village(0, 5), 50);
        due("none below 0", told(law(5, 99, "calm 90 0 0", "proud 19 0 10")).most(2), NONE);
        due("none above 99", told(law(5, 999, "calm 0 0 0", "proud 999 0 0")).most(20), 99);
        due("only by 99", told(law(0, 999, "calm 0 0 99", "proud 999 0 0")).most(1), NONE);
        due("only by 99", told(law(0, 999, "calm 99 0 99", "proud 999 0 0")).most(10), 99);
        for (int n : new int[] {0, -1, 21, LOW, HIGH}) {
            due("most in " + n, x.most(n), BAD);
            due("no plain, most in " + n, new NightWells().most(n), STATE);
        }
        due("no plain", new NightWells().most(1), STATE);
        due("no villages", none().most(1), 99);
        due("no villages, long", none().most(20), 99);
    }

    /** "in n DAYS (1 to 20)" of MOST and GUARDS: the twentieth day counts, the one behind it does not. */
    private static void twentyDays() {
        for (int days : new int[] {19, 20}) {
            NightWells x = told(law(0, 999, "proud " + 10 * days + " 0 10", "proud 0 0 0"));
            due("enough for " + days + ", most", x.most(20), days == 20 ? 99 : NONE);
            due("enough for " + days + ", guards", x.guards(20), days == 20 ? 0 : NONE);
            due("enough for " + days + ", most in 19", x.most(19), 99);
            due("enough for " + days + ", guards in 19", x.guards(19), 0);
            due("enough for " + days + ", wed", x.wed(0, 1, 20), 20 - days / 2);
        }
        NightWells dry = told(law(0, 999, "proud 190 0 10", "proud 0 0 0", "proud 0 0 9"));
        due("what all lack in 20", dry.where(9, 20, 1), 10);
        due("what all lack in 19", dry.where(9, 19, 1), 0);
        due("what all lack in 1", dry.where(8, 1, 1), 1);
    }

    /** "sets of VILLAGES who GUARD (they alone) by which nobody LACKS: the least of those with fewest; NONE". */
    private static void fewestGuards() {
        NightWells x = told(law(9, 90, "calm 0 0 0", "proud 10 0 5", "calm 0 0 0", "proud 10 0 5"));
        due("one day: nobody", x.guards(1), 0);
        due("two days: two of them", x.guards(2), 1 + 4);
        due("three days: none", x.guards(3), NONE);
        for (int v = 0; v < 4; v++) {
            x.guard(v, 1);
        }
        due("they alone, one day", x.guards(1), 0);
        due("they alone, two days", x.guards(2), 1 + 4);
        due("who guards stays", x.village(1, 3) + x.village(3, 3), 2);
        due("the fewest, not the least", told(law(9, 90, "strong 0 0 0", "proud 10 0 5", "calm 0 0 0", "proud 90 0 0")).guards(2), 1);
        NightWells two = told(law(9, 90, "calm 10 0 0", "calm 10 0 5", "calm 10 0 5", "proud 0 0 0"));
        due("one of them, not the first two", two.guards(2), 2);
        NightWells last = told(law(9, 90, "proud 10 0 5", "proud 0 0 0", "proud 0 0 0", "proud 0 0 0", "proud 0 0 0", "proud 0 0 0", "calm 0 0 0"));
        due("the first of two that do", last.guards(2), 1);
        NightWells only = told(law(9, 90, "calm 5 0 5", "proud 9 0 0", "proud 0 0 0", "proud 0 0 0", "proud 0 0 0", "calm 9 0 9", "calm 9 9 9"));
        due("drawing helps", only.first(1), NONE);
        for (int n : new int[] {0, -1, 21, LOW, HIGH}) {
            due("guards in " + n, x.guards(n), BAD);
            due("no plain, guards in " + n, new NightWells().guards(n), STATE);
        }
        due("no plain", new NightWells().guards(1), STATE);
        due("no villages", none().guards(1), 0);
    }

    /** Guards by seven villages: each one alone, and all of them. */
    private static void guardsOfSeven() {
        for (int v = 0; v < 7; v++) {
            String[] all = new String[7];
            for (int u = 0; u < 7; u++) {
                all[u] = u == v ? "calm 50 0 0" : "proud 10 0 " + (u == (v + 1) % 7 ? 5 : 0);
            }
            int may = Math.min(1 << v, 1 << (v + 1) % 7);
            due("one of two, by " + v, told(law(9, 90, all)).guards(2), may);
        }
        String[] awake = new String[7];
        java.util.Arrays.fill(awake, "awake 10 0 5");
        due("all awake", told(law(9, 90, awake)).guards(2), 0);
        String[] thirsty = new String[7];
        java.util.Arrays.fill(thirsty, "calm 0 0 1");
        due("nobody can help", told(law(9, 90, thirsty)).guards(1), NONE);
    }

    /** "who may not draws nothing, sets with such ones count": from none of the sets to all of them. */
    private static void setsThatDrew() {
        for (int many = 1; many <= 7; many++) {
            String[] proud = new String[many];
            String[] calm = new String[many];
            int[] fills = new int[many];
            java.util.Arrays.fill(proud, "proud 10 0 0");
            java.util.Arrays.fill(calm, "calm 10 0 0");
            java.util.Arrays.fill(fills, 10);
            NightWells x = told(law(3, 99, proud));
            tell(x, 0, fills);
            due(many + " who want nothing", x.drew(0, 0), 1 << many);
            due(many + " who want nothing, the least", x.drew(0, 1), 0);
            fills[many - 1]++;
            tell(x, 0, fills);
            due(many + ", nothing fits", x.drew(0, 0), 0);
            due(many + ", nothing fits", x.drew(0, 1), NONE);
            fills[many - 1]--;
            NightWells y = told(law(3, 99, calm));
            tell(y, 0, fills);
            due(many + " who may, all or nobody", y.drew(0, 0), 2);
            due(many + " who may, the least", y.drew(0, 1), 0);
            if (many > 1) {
                fills[many - 1] = 13;
                fills[0] = 7;
                tell(y, 0, fills);
                due(many + ", the last one alone", y.drew(0, 0), 1);
                due(many + ", the last one alone", y.drew(0, 1), 1 << many - 1);
            }
        }
    }

    /** "of whom just these would draw (each as told)": in order, as far as there is, what is over spilt. */
    private static void drewAsTold() {
        NightWells x = told(law(4, 12, "calm 3 9 9", "lazy 1 9 9", "strong 12 9 9", "awake 6 9 9", "proud 2 9 9"));
        // 0 may draw 1, 1 may draw 2, 2 nothing of the awake one, 3 may draw 2, 4 wants nothing: the fills, the least set by them
        int[][] fits = {{3, 1, 12, 6, 2, 0}, {4, 0, 12, 6, 2, 1}, {3, 3, 10, 6, 2, 2}, {4, 2, 10, 6, 2, 3},
            {3, 1, 12, 8, 0, 8}, {4, 0, 12, 8, 0, 9}, {3, 3, 10, 8, 0, 10}, {4, 2, 10, 8, 0, 11}};
        for (int[] fit : fits) {
            tell(x, 0, fit[0], fit[1], fit[2], fit[3], fit[4]);
            due("with two who may not, sets like " + fit[5], x.drew(0, 0), 4);
            due("the least like " + fit[5], x.drew(0, 1), fit[5]);
        }
        tell(x, 0, 3, 1, 12, 6, 1);
        due("the last one alone differs", x.drew(0, 0), 0);
        due("the last one alone differs", x.drew(0, 1), NONE);
        tell(x, 0, 2, 1, 12, 6, 2);
        due("the first one alone differs", x.drew(0, 1), NONE);
        dueFills("nothing changes", x, 3, 1, 12, 6, 2);
        x.guard(1, 1);
        tell(x, 0, 3, 1, 12, 6, 2);
        due("one guards", x.drew(0, 0), 16);
        tell(x, 0, 4, 0, 12, 6, 2);
        due("out of its well nobody draws", x.drew(0, 1), NONE);
        tell(x, 0, 3, 3, 10, 6, 2);
        due("it draws nothing", x.drew(0, 1), NONE);
        NightWells brim = told(law(4, 12, "calm 12 0 0", "proud 5 0 0", "proud 0 0 0"));
        tell(brim, 0, 12, 1, 0);
        due("what is over is spilt", brim.drew(0, 1), 1);
    }

    /** "as many ITEMS as there are VILLAGES, of a ROW from its beginning on"; "BAD: ROW, what; NULL; PLACE". */
    private static void rowsThatTell() {
        NightWells x = told(law(0, 999, "proud 200 0 0", "proud 100 0 0"));
        x.row(0, INTS, 0);
        due("none of two", x.drew(0, 0), PLACE);
        due("status", x.status(), 2);
        tell(x, 0, 200);
        due("one of two", x.drew(0, 0), PLACE);
        tell(x, 0, 200, 100);
        due("just two", x.drew(0, 0), 4);
        due("status", x.status(), 0);
        tell(x, 0, 200, 100, 5);
        due("one more", x.drew(0, 0), 4);
        x.row(0, INTS, 40);
        x.set(0, 0, 200);
        x.set(0, 1, 100);
        x.set(0, 39, 7);
        due("as many as there may be", x.drew(0, 0), 4);
        tell(x, 0, 5, 200, 100);
        due("not from its beginning on", x.drew(0, 0), 0);
        tellIn(x, SHORTS, 0, 200, 100);
        due("shorts", x.drew(0, 0), 4);
        tellIn(x, BYTES, 0, 200, 100);
        due("a byte with its sign", x.drew(0, 0), 0);
        tell(x, 0, 200 + 65536, 100);
        due("an int whole", x.drew(0, 0), 0);
        due("missing", x.drew(1, 0), NULL);
        due("status", x.status(), 1);
        for (int what : BEYOND) {
            due("what " + what, x.drew(0, what), BAD);
            due("what " + what + ", of a missing one", x.drew(1, what), BAD);
        }
        for (int row : new int[] {-1, 8, LOW, HIGH}) {
            due("row " + row, x.drew(row, 0), BAD);
        }
        NightWells none = none();
        none.row(0, BYTES, 0);
        due("no villages, no items", none.drew(0, 0), 1);
        due("no villages, no items, the least", none.drew(0, 1), 0);
        due("no villages, missing", none.drew(1, 0), NULL);
        NightWells noPlain = new NightWells();
        due("no plain", noPlain.drew(0, 0), STATE);
        due("no plain, no such row", noPlain.drew(8, 0), STATE);
        due("no plain, no such what", noPlain.drew(0, 2), STATE);
        due("no plain, status", noPlain.status(), 0);
    }

    /** "WHERE: the VILLAGE of which f (1 to 99) more FLOW makes what all together LACK least, of several the first". */
    private static void whereFlowHelps() {
        NightWells x = told(law(0, 90, "proud 0 0 3", "proud 0 0 9", "proud 0 0 9"));
        due("the first of two", x.where(9, 2, 0), 1);
        due("what all lack then", x.where(9, 2, 1), 2 * 12);
        due("the first of three", x.where(3, 2, 0), 0);
        due("the first of three, just one less", x.where(4, 2, 0), 1);
        due("one more", x.where(1, 1, 1), 20);
        due("99 more", x.where(99, 1, 1), 12);
        dueFills("nothing changes", x, 0, 0, 0);
        due("nothing changes", x.village(0, 1) + x.village(1, 1) + x.village(2, 1) + x.count(5), 0);
        NightWells wide = told(law(0, 999, "proud 0 99 99", "proud 0 0 99"));
        due("the last one", wide.where(99, 1, 0), 1);
        due("nobody lacks", wide.where(99, 1, 1), 0);
        due("99 of 99", wide.where(98, 1, 1), 1);
        NightWells own = told(law(0, 999, "proud 0 3 9", "proud 0 4 8"));
        due("more than its own flow", own.where(5, 2, 1), 2 * (1 + 4));
        due("more than its own flow, just one less", own.where(6, 2, 1), 2 * 4);
        NightWells flowing = told(law(0, 999, "proud 0 99 0"));
        due("of one alone", flowing.where(99, 20, 0), 0);
        due("nothing is lacked", flowing.where(1, 1, 1), 0);
        NightWells next = told(law(20, 90, "proud 9 9 9", "strong 9 0 0", "proud 0 0 0", "proud 0 0 3"));
        due("of the one that lacks", next.where(3, 9, 0), 3);
        for (int f : new int[] {0, -1, 100, LOW, HIGH}) {
            due("f " + f, x.where(f, 1, 0), BAD);
            due("no villages, f " + f, none().where(f, 1, 0), STATE);
        }
        for (int n : new int[] {0, -1, 21, LOW, HIGH}) {
            due("n " + n, x.where(1, n, 0), BAD);
            due("no villages, n " + n, none().where(1, n, 0), STATE);
        }
        for (int what : BEYOND) {
            due("what " + what, x.where(1, 1, what), BAD);
            due("no villages, what " + what, none().where(1, 1, what), STATE);
        }
        due("no villages", none().where(1, 1, 0), STATE);
        due("no plain", new NightWells().where(1, 1, 0), STATE);
    }

    /** Seven villages: the one that lacks is found wherever it stands. */
    private static void whereOfSeven() {
        for (int v = 0; v < 7; v++) {
            String[] all = new String[7];
            for (int u = 0; u < 7; u++) {
                all[u] = "proud 0 0 " + (u == v ? 2 : 1);
            }
            NightWells x = told(law(0, 90, all));
            due("where, " + v, x.where(2, 1, 0), v);
            due("where, " + v + ", lacked", x.where(2, 1, 1), 6);
            due("by one, the first", x.where(1, 1, 0), 0);
        }
    }

    /** "had half of what both WELLS hold together (cut, the first one what is over; ROOM at most)". */
    private static void halfOfBoth() {
        for (int both = 0; both <= 12; both++) {
            for (int first = Math.max(0, both - 6); first <= Math.min(6, both); first++) {
                String what = first + " and " + (both - first);
                int more = both - both / 2;
                NightWells x = told(law(0, 6, "proud " + first + " 0 " + more, "proud " + (both - first) + " 0 " + both / 2, "proud 6 0 0"));
                due(what + ", each its half", x.wed(0, 1, 1), 0);
                due(what + ", the other way", x.wed(1, 0, 1), both % 2);
                NightWells y = told(law(0, 6, "proud " + first + " 0 " + (more + 1), "proud " + (both - first) + " 0 0"));
                due(what + ", no more than that", y.wed(0, 1, 1), 1);
                NightWells z = told(law(0, 6, "proud " + first + " 0 0", "proud " + (both - first) + " 0 " + (both / 2 + 1)));
                due(what + ", no more for the other", z.wed(0, 1, 1), 1);
            }
        }
        NightWells wide = told(law(0, 999, "proud 999 0 99", "proud 999 0 99"));
        due("both brimful", wide.wed(0, 1, 10), 0);
        due("both brimful, longer", wide.wed(0, 1, 11), 1);
    }

    /** "in how many of the next n DAYS (1 to 20) anybody would LACK"; "BAD: alike, too". */
    private static void wedDays() {
        NightWells x = told(law(0, 90, "proud 11 0 3", "proud 0 0 3", "proud 90 0 0"));
        for (int n = 1; n <= 20; n++) {
            due("wed for " + n, x.wed(0, 1, n), n - 1);
            due("wed to the third for " + n, x.wed(2, 0, n), n);
        }
        dueFills("nothing changes", x, 11, 0, 90);
        due("nothing changes", x.count(2) + x.count(4) + x.count(5), 0);
        for (int n : new int[] {0, -1, 21, LOW, HIGH}) {
            due("wed for " + n, x.wed(0, 1, n), BAD);
        }
        for (int v = 0; v < 3; v++) {
            due("alike " + v, x.wed(v, v, 1), BAD);
        }
        for (int v : new int[] {-1, 3, 7, LOW, HIGH}) {
            due("wed " + v, x.wed(v, 0, 1), BAD);
            due("wed to " + v, x.wed(0, v, 1), BAD);
            due("wed both " + v, x.wed(v, v, 1), BAD);
        }
        NightWells off = told(law(0, 90, "proud 10 0 5", "proud 4 7 7"));
        due("not each day", off.wed(0, 1, 2), 1);
        NightWells one = told(law(0, 9, "proud 1 0 0"));
        due("one alone", one.wed(0, 0, 1), BAD);
        due("one alone, another", one.wed(0, 1, 1), BAD);
        due("no plain", new NightWells().wed(0, 1, 1), BAD);
        due("no villages", none().wed(0, 1, 1), BAD);
        NightWells seven = told(law(0, 9, "proud 1 0 0", "proud 1 0 0", "proud 1 0 0", "proud 1 0 0", "proud 1 0 0", "proud 0 0 2", "proud 4 0 2"));
        due("the last two", seven.wed(5, 6, 1), 0);
        due("the last and the first", seven.wed(6, 0, 1), 1);
    }

    /** "image: an IMAGE (0, 1) is kept of the PLAIN: 1. BAD; STATE: no PLAIN". */
    private static void imagesThereAre() {
        NightWells x = new NightWells();
        for (int k : BEYOND) {
            due("no plain, image " + k, x.image(k), BAD);
            due("no plain, restore " + k, x.restore(k), BAD);
        }
        for (int k = 0; k <= 1; k++) {
            due("no plain, image " + k, x.image(k), STATE);
            due("none kept, restore " + k, x.restore(k), STATE);
        }
        read(x, law(0, 9, "proud 5 1 0"));
        for (int k = 0; k <= 1; k++) {
            due("by an image of no plain none is kept, " + k, x.restore(k), STATE);
        }
        due("image 1", x.image(1), 1);
        due("still none, restore 0", x.restore(0), STATE);
        x.day(0);
        due("image 0", x.image(0), 1);
        for (int k : BEYOND) {
            due("image " + k, x.image(k), BAD);
            due("restore " + k, x.restore(k), BAD);
        }
        due("restore 1", x.restore(1), 1);
        dueFills("restore 1", x, 5);
        due("restore 0", x.restore(0), 1);
        dueFills("restore 0", x, 6);
        x.day(0);
        dueFills("lived on", x, 7);
        due("restore 0 again", x.restore(0), 1);
        dueFills("the image stayed", x, 6);
        due("image 0 anew", x.restore(1) + x.image(0), 2);
        x.day(0);
        due("restore 0 anew", x.restore(0), 1);
        dueFills("restore 0 anew", x, 5);
        NightWells none = none();
        due("no villages, image", none.image(0), 1);
        read(none, law(0, 9, "proud 5 1 0"));
        due("no villages, restore", none.restore(0), 1);
        due("no villages", none.count(1), 0);
    }

    /** "The PLAIN is as an IMAGE kept it (no ACT can be undone then)": law, villages, days, guards and lacks. */
    private static void asAnImageKeptIt() {
        NightWells x = told(law(5, 30, "strong 3 4 19", "awake 30 2 8", "lazy 20 9 1"));
        x.guard(2, 1);
        x.day(3);
        x.day(0);
        int[] seen = new int[36];
        for (int k = 0; k < 18; k++) {
            seen[k] = x.village(k / 6, k % 6);
        }
        int ahead = x.ahead(0, 60, 1);
        int all = x.count(3);
        int lacked = x.count(5);
        x.image(1);
        due("acts stay by an image", x.count(4), 3);
        due("an act before the image is undone", x.undo(), 2);
        x.guard(0, 1);
        x.weather(3);
        due("restored", x.restore(1), 1);
        due("no act", x.count(4), 0);
        due("no act can be undone", x.undo(), STATE);
        read(x, law(99, 9, "proud 1 1 1", "proud 1 1 1", "proud 1 1 1", "proud 1 1 1"));
        x.guard(3, 1);
        x.day(0);
        due("restored, behind another", x.restore(1), 1);
        due("no act, behind another", x.undo(), STATE);
        due("villages", x.count(1), 3);
        due("days", x.count(2), 2);
        due("wells", x.count(3), all);
        due("lacked", x.count(5), lacked);
        for (int k = 0; k < 18; k++) {
            due("village " + k / 6 + ", " + k % 6 + " as it was", x.village(k / 6, k % 6), seen[k]);
        }
        for (int v = 0; v < 3; v++) {
            due("kind of " + v, x.kind(v), new int[] {4, 5, 2}[v]);
        }
        due("foretold as it was", x.ahead(0, 60, 1), ahead);
        x.day(99);
        due("one act then", x.undo(), 0);
        due("days then", x.count(2), 2);
        dueFills("fills then", x, seen[0], seen[6], seen[12]);
    }

    /** "FORETOLD (nothing changes)": whatever is asked, all stays, and is told alike again. */
    private static void nothingChanges() {
        NightWells x = told(law(6, 40, "calm 20 5 7", "lazy 10 4 6", "strong 3 9 2", "awake 30 1 8", "proud 12 6 9"));
        x.guard(2, 1);
        x.day(5);
        x.image(0);
        tell(x, 0, 1, 2, 3, 4, 5);
        int[] before = foretoldAndSeen(x);
        int[] again = foretoldAndSeen(x);
        for (int k = 0; k < before.length; k++) {
            due("told again, " + k, again[k], before[k]);
        }
        due("acts", x.undo(), 1);
        due("day 0", x.count(2), 0);
        dueFills("as it was", x, 20, 10, 3, 30, 12);
    }

    private static int[] foretoldAndSeen(NightWells x) {
        int[] seen = new int[60];
        int k = 0;
        for (int v = 0; v < 5; v++) {
            for (int what = 0; what <= 5; what++) {
                seen[k++] = x.village(v, what);
            }
            seen[k++] = x.ahead(v, 60, 0);
            seen[k++] = x.ahead(v, 60, 1);
        }
        for (int what = 0; what <= 6; what++) {
            seen[k++] = x.count(what);
        }
        int[] told = {x.first(60), x.rest(0), x.rest(1), x.most(20), x.guards(20), x.drew(0, 0), x.drew(0, 1), x.where(99, 20, 0),
            x.where(99, 20, 1), x.wed(0, 4, 20), x.wed(4, 0, 20)};
        for (int one : told) {
            seen[k++] = one;
        }
        return seen;
    }

    public static void main(String[] args) {
        aheadDays();
        fromNowOn();
        firstDays();
        restDays();
        ringDays();
        mostByNight();
        twentyDays();
        fewestGuards();
        guardsOfSeven();
        setsThatDrew();
        drewAsTold();
        rowsThatTell();
        whereFlowHelps();
        whereOfSeven();
        halfOfBoth();
        wedDays();
        imagesThereAre();
        asAnImageKeptIt();
        nothingChanges();
        end("all edges of what is foretold hold");
    }
}
