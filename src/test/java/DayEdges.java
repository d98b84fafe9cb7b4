/** What the document says of DAYS, nights, GUARDS and ACTS (promises 9 to 13), each sentence at its edges. */
public final class DayEdges extends Checks {
    /** Seeds, and the rain by each. */
    private static final int[][] SEEDS = {{1, 7}, {2, 14}, {3, 1}, {999998, 17}, {999999, 4}, {127773, 11}, {127774, 11},
        {255546, 15}, {500000, 19}, {20, 0}, {999987, 0}, {17, 19}, {999984, 19}};

    /** As many villages as told, all of one line. */
    private static String law(int night, int room, String... villages) {
        StringBuilder text = new StringBuilder("law " + night + " " + room + ";");
        for (String v : villages) {
            text.append("village ").append(v).append(';');
        }
        return text.toString();
    }

    private static void dueNight(String what, String text, int... fills) {
        NightWells x = told(text);
        due(what + ", nobody lacked", x.day(0), 0);
        dueFills(what, x, fills);
    }

    /** "The NEXT VILLAGE of the last one is the first (of one alone: itself)". */
    private static void nextVillage() {
        for (int many = 1; many <= 7; many++) {
            for (int v = 0; v < many; v++) {
                String[] villages = new String[many];
                int[] fills = new int[many];
                for (int u = 0; u < many; u++) {
                    villages[u] = (u == v ? "calm" : "proud") + " 10 0 0";
                    fills[u] = 10;
                }
                fills[v] += 3;
                fills[(v + 1) % many] -= 3;
                dueNight(v + " of " + many, law(3, 20, villages), fills);
            }
        }
    }

    /** "of one alone: itself": what it draws comes into the well that it is drawn from. */
    private static void oneAlone() {
        for (String sort : new String[] {"calm", "lazy", "proud", "strong", "awake"}) {
            for (int fill : new int[] {0, 1, 19, 20}) {
                NightWells x = told(law(99, 20, sort + " " + fill + " 0 0"));
                due(sort + " alone", x.day(0), 0);
                dueFills(sort + " alone", x, fill);
                x.guard(0, 1);
                x.day(0);
                dueFills(sort + " alone, guarding", x, fill);
            }
        }
    }

    /** "FLOW, and RAIN, come into each WELL, ROOM at most": before anything is drawn. */
    private static void roomAtMostByDay() {
        dueNight("just the room", law(0, 20, "proud 13 7 0"), 20);
        dueNight("one short of it", law(0, 20, "proud 12 7 0"), 19);
        dueNight("one over", law(0, 20, "proud 14 7 0"), 20);
        dueNight("much over", law(0, 20, "proud 20 99 0"), 20);
        dueNight("the need is drawn from the room", law(0, 20, "proud 20 99 7"), 13);
        dueNight("the need is the room", law(0, 20, "proud 20 99 20"), 0);
        NightWells x = told(law(0, 20, "proud 20 99 21"));
        due("the need is more than the room", x.day(99), 1);
        due("it lacks one", x.village(0, 4), 1);
        NightWells both = told(law(0, 20, "proud 5 6 0", "proud 0 0 0", "proud 20 0 0"));
        both.day(8);
        dueFills("flow and rain, into each", both, 19, 8, 20);
        both.day(8);
        dueFills("flow and rain, room at most", both, 20, 16, 20);
    }

    /** "draws NEED out of its own WELL, as far as there is; it LACKS the rest". */
    private static void needAsFarAsThereIs() {
        int[][] cases = {{0, 0, 0, 0}, {0, 1, 0, 1}, {1, 0, 1, 0}, {8, 7, 1, 0}, {8, 8, 0, 0}, {8, 9, 0, 1}, {0, 99, 0, 99},
            {99, 99, 0, 0}, {98, 99, 0, 1}, {100, 99, 1, 0}};
        for (int[] c : cases) {
            NightWells x = told(law(0, 100, "proud " + c[0] + " 0 " + c[1]));
            String what = "need " + c[1] + " of " + c[0];
            due(what + ", lacking", x.day(0), c[3] > 0 ? 1 : 0);
            dueFills(what, x, c[2]);
            due(what + ", lacked", x.village(0, 4), c[3]);
        }
        NightWells own = told(law(0, 50, "proud 3 0 5", "proud 50 0 0"));
        due("its own well alone", own.day(0), 1);
        due("its own well alone", own.village(0, 4), 2);
    }

    /** "VILLAGES (bits) that LACKED": in this day, and just these. */
    private static void bitsOfThoseWhoLacked() {
        for (int v = 0; v < 7; v++) {
            String[] one = new String[7];
            String[] others = new String[7];
            for (int u = 0; u < 7; u++) {
                one[u] = "proud 3 3 " + (u == v ? 7 : 6);
                others[u] = "proud 3 3 " + (u == v ? 6 : 7);
            }
            due("only " + v, told(law(0, 9, one)).day(0), 1 << v);
            due("all but " + v, told(law(0, 9, others)).day(0), 127 - (1 << v));
        }
        NightWells x = told(law(0, 9, "proud 0 0 3", "proud 0 2 2"));
        due("the first day", x.day(0), 1);
        due("a rainy one", x.day(3), 0);
        due("again", x.day(1), 1);
        due("lacked in all", x.village(0, 4), 3 + 2);
        due("nobody at all", told("law 1 9;").day(99), 0);
    }

    /** "draws from the WELL of the NEXT, as far as there is, what it wants by night". */
    private static void nightAsFarAsThereIs() {
        dueNight("just as much", law(6, 50, "calm 1 0 0", "proud 6 0 0"), 7, 0);
        dueNight("one fewer", law(6, 50, "calm 1 0 0", "proud 5 0 0"), 6, 0);
        dueNight("one more", law(6, 50, "calm 1 0 0", "proud 7 0 0"), 7, 1);
        dueNight("nothing there", law(6, 50, "calm 1 0 0", "proud 0 0 0"), 1, 0);
        dueNight("nothing wanted", law(0, 50, "calm 1 0 0", "strong 9 0 0"), 1, 9);
        dueNight("what the day left", law(6, 50, "calm 1 0 0", "proud 9 1 8"), 3, 0);
    }

    /** "NIGHT, a lazy one half of it (cut), a strong one twice NIGHT, a proud one nothing"; one awake NIGHT. */
    private static void whatEachWants() {
        int[][] nights = {{0, 0, 0}, {1, 0, 2}, {2, 1, 4}, {3, 1, 6}, {50, 25, 100}, {98, 49, 196}, {99, 49, 198}};
        for (int[] night : nights) {
            int[] wants = {0, night[0], night[1], 0, night[2], night[0]};
            for (int kind = 1; kind <= 5; kind++) {
                String what = SORTS.get(kind) + " by " + night[0];
                NightWells x = told(law(night[0], 500, SORTS.get(kind) + " 0 0 0", "proud 300 0 0"));
                due(what + " wants", x.village(0, 5), wants[kind]);
                x.day(0);
                dueFills(what + " draws", x, wants[kind], 300 - wants[kind]);
            }
        }
    }

    /** "out of the WELL of one that GUARDS, or is awake, nobody draws"; "One that GUARDS draws nothing by night". */
    private static void whoGuardsOrIsAwake() {
        String ring = law(4, 50, "calm 20 0 0", "strong 20 0 0", "calm 20 0 0");
        dueNight("nobody guards", ring, 20, 24, 16);
        int[][] then = {{20, 24, 16}, {20, 28, 12}, {16, 20, 24}, {20, 20, 20}, {24, 16, 20}, {20, 20, 20}, {20, 20, 20}, {20, 20, 20}};
        for (int set = 0; set < 8; set++) {
            NightWells x = told(ring);
            for (int v = 0; v < 3; v++) {
                x.guard(v, set >> v & 1);
            }
            due("guarding " + set, x.day(0), 0);
            dueFills("guarding " + set, x, then[set]);
        }
        dueNight("out of an awake one's", law(4, 50, "calm 20 0 0", "awake 20 0 0", "proud 20 0 0"), 20, 24, 16);
        dueNight("out of an awake one's, the first", law(4, 50, "awake 20 0 0", "calm 20 0 0", "calm 20 0 0"), 24, 20, 16);
        dueNight("all awake", law(4, 50, "awake 20 0 0", "awake 20 0 0"), 20, 20);
        NightWells x = told(law(4, 50, "awake 20 0 0", "proud 20 0 0"));
        x.guard(0, 1);
        x.day(0);
        dueFills("one awake that guards", x, 20, 20);
        due("guarding or not it wants", x.village(0, 5), 4);
        NightWells needy = told(law(4, 50, "calm 20 0 21"));
        needy.guard(0, 1);
        due("one that guards draws by day", needy.day(0), 1);
        due("one that guards lacks the rest", needy.village(0, 4), 1);
    }

    /** "what it draws comes into its own WELL, ROOM at most (the rest is spilt)". */
    private static void restIsSpilt() {
        dueNight("just the room", law(5, 20, "calm 15 0 0", "proud 9 0 0"), 20, 4);
        dueNight("one spilt", law(5, 20, "calm 16 0 0", "proud 9 0 0"), 20, 4);
        dueNight("all spilt", law(5, 20, "calm 20 0 0", "proud 9 0 0"), 20, 4);
        dueNight("one short", law(5, 20, "calm 14 0 0", "proud 9 0 0"), 19, 4);
        dueNight("all there is, spilt", law(99, 1, "strong 1 0 0", "proud 1 0 0"), 1, 0);
    }

    /** "Then by night each, in order": the first one draws first, the last one what the first one holds then. */
    private static void inOrder() {
        dueNight("the first draws first", law(5, 50, "calm 0 0 0", "calm 5 0 0", "calm 5 0 0"), 0, 5, 5);
        dueNight("the last draws what came", law(5, 50, "calm 0 0 0", "proud 5 0 0", "calm 0 0 0"), 0, 0, 5);
        dueNight("one that was drawn from draws", law(9, 10, "calm 0 0 0", "calm 10 0 0", "proud 10 0 0"), 9, 10, 1);
        dueNight("two, to and fro", law(4, 50, "calm 0 0 0", "calm 10 0 0"), 0, 10);
        NightWells x = told(law(9, 50, "calm 0 0 5", "proud 9 0 0"));
        due("the day is ahead of the night", x.day(0), 1);
        dueFills("the night then", x, 9, 0);
        due("the next day", x.day(0), 0);
    }

    /** "RAIN (0 to 99)"; "Then it is the next DAY"; STATE is ahead of BAD. */
    private static void rain() {
        NightWells x = told(law(0, 999, "proud 0 0 0"));
        due("rain 0", x.day(0), 0);
        dueFills("rain 0", x, 0);
        due("one day", x.count(2), 1);
        x.day(1);
        x.day(98);
        dueFills("rain 1 and 98", x, 99);
        x.day(99);
        dueFills("rain 99", x, 198);
        due("four days", x.count(2), 4);
        for (int rain : new int[] {-1, 100, LOW, HIGH}) {
            due("rain " + rain, x.day(rain), BAD);
            due("no plain, rain " + rain, new NightWells().day(rain), STATE);
        }
        due("no plain, rain 0", new NightWells().day(0), STATE);
        due("still four days", x.count(2), 4);
        due("still four acts", x.count(4), 4);
        dueFills("still", x, 198);
    }

    /** "a DAY with RAIN by a SEED (1 to 999999)". */
    private static void seeds() {
        for (int[] of : SEEDS) {
            NightWells x = told(law(0, 999, "proud 0 0 0"));
            due("seed " + of[0], x.weather(of[0]), of[1]);
            dueFills("seed " + of[0], x, of[1]);
            due("its day", x.count(2), 1);
            due("its act", x.count(4), 1);
        }
        NightWells x = told(law(0, 999, "proud 0 0 5"));
        due("twice the same seed", x.weather(2), 14);
        due("twice the same seed", x.weather(2), 14);
        dueFills("twice the same seed", x, 18);
        for (int seed : new int[] {0, -1, 1000000, LOW, HIGH}) {
            due("seed " + seed, x.weather(seed), BAD);
            due("no plain, seed " + seed, new NightWells().weather(seed), STATE);
        }
        due("no plain, seed 1", new NightWells().weather(1), STATE);
        due("two days", x.count(2), 2);
        due("no villages", told("law 1 9;").weather(1), 7);
    }

    /** "24 at most are kept, of more the oldest is forgotten; each can be undone, the latest first". */
    private static void actsAtMost() {
        for (int many = 0; many <= 60; many++) {
            NightWells x = told(law(0, 999, "proud 0 1 0"));
            for (int d = 0; d < many; d++) {
                x.day(0);
            }
            int kept = Math.min(24, many);
            due(many + " acts, kept", x.count(4), kept);
            for (int k = kept - 1; k >= 0; k--) {
                due(many + " acts, undone", x.undo(), k);
                due(many + " acts, to undo yet", x.count(4), k);
                dueFills(many + " acts, fill then", x, many - kept + k);
                due(many + " acts, days then", x.count(2), many - kept + k);
            }
            due(many + " acts, none any more", x.undo(), STATE);
            dueFills(many + " acts, behind all", x, many - kept);
        }
    }

    /** Acts behind acts undone: still 24 at most, still the latest first. */
    private static void actsBehindUndoing() {
        NightWells x = told(law(0, 999, "proud 0 1 0"));
        for (int d = 0; d < 30; d++) {
            x.day(0);
        }
        for (int k = 0; k < 10; k++) {
            x.undo();
        }
        due("ten undone", x.count(4), 14);
        for (int d = 0; d < 9; d++) {
            x.day(10);
        }
        due("nine more", x.count(4), 23);
        x.day(10);
        due("ten more", x.count(4), 24);
        x.day(10);
        due("eleven more", x.count(4), 24);
        dueFills("eleven more", x, 20 + 11 * 11);
        for (int k = 23; k >= 13; k--) {
            due("undone", x.undo(), k);
            dueFills("undone", x, 20 + 11 * (k - 13));
        }
        for (int k = 12; k >= 0; k--) {
            due("undone further", x.undo(), k);
            dueFills("undone further", x, 7 + k);
        }
        due("none any more", x.undo(), STATE);
    }

    /** "ACTS: a DAY with RAIN; a DAY by a SEED; a VILLAGE GUARDS, or not any more", "also such by which nothing becomes another". */
    private static void whatAnActIs() {
        NightWells x = told(law(0, 9, "proud 9 0 0"));
        x.day(5);
        due("a day", x.count(4), 1);
        x.weather(5);
        due("a day by a seed", x.count(4), 2);
        x.guard(0, 1);
        due("guards", x.count(4), 3);
        x.guard(0, 1);
        due("guards already", x.count(4), 4);
        x.guard(0, 0);
        due("not any more", x.count(4), 5);
        x.guard(0, 0);
        due("did not", x.count(4), 6);
        x.ahead(0, 5, 0);
        x.first(5);
        x.rest(0);
        x.most(1);
        x.guards(1);
        x.where(1, 1, 0);
        x.image(0);
        x.ask(0, 0);
        x.as(0, 0);
        x.row(0, 0, 1);
        x.drew(0, 0);
        due("others are none", x.count(4), 6);
        due("undone: did not", x.undo() * 10 + x.village(0, 3), 50);
        due("undone: not any more", x.undo() * 10 + x.village(0, 3), 41);
        due("undone: guards already", x.undo() * 10 + x.village(0, 3), 31);
        due("undone: guards", x.undo() * 10 + x.village(0, 3), 20);
        due("undone: a day by a seed", x.undo() * 10 + x.count(2), 11);
        due("undone: a day", x.undo() * 10 + x.count(2), 0);
        due("none", x.undo(), STATE);
        due("no plain", new NightWells().undo(), STATE);
        NightWells none = told("law 1 9;");
        none.day(0);
        due("a day of no villages", none.count(4), 1);
        due("a day of no villages, undone", none.undo() + none.count(2), 0);
    }

    /** "The latest ACT is undone": all that it changed, and nothing that other calls did. */
    private static void whatIsUndone() {
        NightWells x = told(law(5, 20, "strong 3 1 9", "calm 12 0 8", "lazy 20 9 1"));
        x.guard(2, 1);
        int lacking = x.day(3);
        int[] seen = new int[18];
        for (int k = 0; k < 18; k++) {
            seen[k] = x.village(k / 6, k % 6);
        }
        x.row(0, INTS, 2);
        x.image(0);
        x.feed(32, 4);
        x.weather(7);
        x.guard(2, 0);
        x.guard(0, 1);
        x.day(0);
        for (int k = 5; k >= 2; k--) {
            due("undone", x.undo(), k);
        }
        for (int k = 0; k < 18; k++) {
            due("village " + k / 6 + ", " + k % 6 + " as it was", x.village(k / 6, k % 6), seen[k]);
        }
        due("days", x.count(2), 1);
        due("somebody lacked", lacking, 1);
        due("rows stay", x.count(0), 1);
        due("the tape stays", x.count(6), 4);
        due("the image stays", x.restore(0), 1);
    }

    /** "guard: a VILLAGE GUARDS (1), or not (0): how it was. BAD". */
    private static void guardArguments() {
        NightWells x = told(law(1, 9, "calm 0 0 0", "calm 0 0 0", "calm 0 0 0", "calm 0 0 0", "calm 0 0 0", "calm 0 0 0", "calm 0 0 0"));
        for (int v = 0; v < 7; v++) {
            due("was not " + v, x.guard(v, 1), 0);
            for (int u = 0; u < 7; u++) {
                due("guards " + u, x.village(u, 3), u <= v ? 1 : 0);
            }
        }
        for (int v = 0; v < 7; v++) {
            due("was " + v, x.guard(v, 0), 1);
            due("was not then " + v, x.guard(v, 0), 0);
        }
        int acts = x.count(4);
        for (int v : new int[] {-1, 7, LOW, HIGH, 32}) {
            due("guard " + v, x.guard(v, 1), BAD);
        }
        for (int is : new int[] {-1, 2, LOW, HIGH}) {
            due("guard is " + is, x.guard(0, is), BAD);
        }
        due("no act by these", x.count(4), acts);
        due("nobody by these", x.guards(1), 0);
        for (int v = 0; v < 7; v++) {
            due("nobody guards", x.village(v, 3), 0);
        }
        due("no plain", new NightWells().guard(0, 0), BAD);
        due("no villages", told("law 1 9;").guard(0, 0), BAD);
    }

    /** "village: 0 FILL .. 5 what it wants. BAD". */
    private static void villageArguments() {
        NightWells x = told(law(7, 90, "lazy 11 12 13", "calm 21 22 23", "strong 31 32 33"));
        for (int v = 0; v < 3; v++) {
            due("fill", x.village(v, 0), 10 * v + 11);
            due("flow", x.village(v, 1), 10 * v + 12);
            due("need", x.village(v, 2), 10 * v + 13);
            due("guards", x.village(v, 3), 0);
            due("lacked", x.village(v, 4), 0);
            due("wants", x.village(v, 5), new int[] {3, 7, 14}[v]);
            for (int what : new int[] {-1, 6, LOW, HIGH}) {
                due("what " + what, x.village(v, what), BAD);
            }
        }
        for (int v : new int[] {-1, 3, 6, 7, LOW, HIGH}) {
            for (int what = 0; what <= 5; what++) {
                due("village " + v, x.village(v, what), BAD);
            }
        }
        due("no plain", new NightWells().village(0, 0), BAD);
        due("no villages", told("law 1 9;").village(0, 0), BAD);
    }

    /** "An object is used for at most 512 calls": the 512th is answered as the first ones are. */
    private static void fiveHundredAndTwelveCalls() {
        NightWells x = told(law(0, 999, "proud 0 1 0"));
        int calls = (law(0, 999, "proud 0 1 0").length() + 7) / 8 + 1;
        for (; calls < 510; calls++) {
            due("day behind call " + calls, x.day(0), 0);
        }
        due("fill by call 511", x.village(0, 0), 510 - 5);
        due("days by call 512", x.count(2), 510 - 5);
    }

    /** "FULL: 9999 are gone" lies beyond 512 calls; here it holds all the same, behind STATE and BAD. */
    private static void daysAtMost() {
        NightWells x = told(law(0, 9, "proud 1 1 0"));
        for (int d = 0; d < 9998; d++) {
            x.day(0);
        }
        due("the last day", x.day(0), 0);
        due("none any more", x.day(0), FULL);
        due("none by a seed", x.weather(1), FULL);
        due("BAD ahead of FULL", x.day(100), BAD);
        due("BAD ahead of FULL", x.weather(0), BAD);
        due("days", x.count(2), 9999);
        due("acts", x.count(4), 24);
        due("undone", x.undo(), 23);
        due("one again, by a seed", x.weather(1), 7);
        due("none any more", x.weather(1), FULL);
        due("another act", x.guard(0, 1), 0);
    }

    public static void main(String[] args) {
        nextVillage();
        oneAlone();
        roomAtMostByDay();
        needAsFarAsThereIs();
        bitsOfThoseWhoLacked();
        nightAsFarAsThereIs();
        whatEachWants();
        whoGuardsOrIsAwake();
        restIsSpilt();
        inOrder();
        rain();
        seeds();
        actsAtMost();
        actsBehindUndoing();
        whatAnActIs();
        whatIsUndone();
        guardArguments();
        villageArguments();
        fiveHundredAndTwelveCalls();
        daysAtMost();
        end("all edges of days hold");
    }
}
