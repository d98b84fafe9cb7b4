import java.util.List;

/** What the document says of THE TAPE, TEXTS, PLAINS and FAULTS (promises 6 to 8), each sentence at its edges. */
public final class TextEdges extends Checks {
    private static final String VILLAGE = "village calm 0 0 0;";

    private static void dueRead(String text, int villages) {
        NightWells x = new NightWells();
        due("plain of <" + text + ">", read(x, text), villages);
        due("villages of <" + text + ">", x.count(1), villages);
        due("fault of <" + text + ">", x.fault(), 0);
        due("tape behind <" + text + ">", x.count(6), 0);
    }

    private static void feedBlanks(NightWells x, int many) {
        feed(x, " ".repeat(many));
    }

    /** "THE TAPE has at most 400 bytes"; "FULL: none comes". */
    private static void tapeAtMost() {
        for (int there = 390; there <= 400; there++) {
            for (int n = 1; n <= 8; n++) {
                NightWells x = new NightWells();
                feedBlanks(x, there);
                boolean fits = there + n <= 400;
                String call = "feed of " + n + " behind " + there;
                due(call, x.feed(0x2020202020202020L, n), fits ? there + n : FULL);
                due(call + ", tape", x.count(6), fits ? there + n : there);
                due(call + ", read", x.plain(), -1000100 - (fits ? there + n : there));
            }
        }
        NightWells x = new NightWells();
        for (int k = 1; k <= 400; k++) {
            due("feed of byte " + k, x.feed(32, 1), k);
        }
        due("feed of byte 401", x.feed(32, 1), FULL);
    }

    /** "FULL: none comes": what stood there stays as it was. */
    private static void noneComesWhenFull() {
        NightWells x = new NightWells();
        String text = "law 3 9; village lazy 7 2 1;";
        feed(x, text + " ".repeat(395 - text.length()));
        due("six behind 395", x.feed(0x3b3b3b3b3b3bL, 6), FULL);
        due("eight behind 395", x.feed(0x3b3b3b3b3b3b3b3bL, 8), FULL);
        due("tape", x.count(6), 395);
        due("five behind 395", x.feed(0x2020202020L, 5), 400);
        due("read", x.plain(), 1);
        due("fill", x.village(0, 0), 7);
    }

    /** "The lowest n bytes of w (1 to 8)": no fewer, no more; BAD is ahead of FULL. */
    private static void bytesOfOneCall() {
        NightWells x = new NightWells();
        for (int n : new int[] {0, 9, -1, LOW, HIGH}) {
            due("feed of " + n, x.feed(32, n), BAD);
            due("tape", x.count(6), 0);
        }
        int all = 0;
        for (int n = 1; n <= 8; n++) {
            all += n;
            due("feed of " + n, x.feed(0x2020202020202020L, n), all);
        }
        feedBlanks(x, 400 - all);
        for (int n : new int[] {0, 9, -1, LOW, HIGH}) {
            due("full, feed of " + n, x.feed(32, n), BAD);
        }
        due("full, feed of 1", x.feed(32, 1), FULL);
        due("full, feed of 8", x.feed(32, 8), FULL);
    }

    /** "The lowest n bytes of w, the highest of them first": what is above them does not come. */
    private static void lowestBytesHighestFirst() {
        String text = "law 42 97; village strong 86 13 75;";
        for (int n = 1; n <= 8; n++) {
            for (long above : new long[] {0, -1, 0x3b3b3b3b3b3b3b3bL, Long.MIN_VALUE}) {
                NightWells x = new NightWells();
                for (int at = 0; at < text.length(); at += n) {
                    long w = above;
                    int some = Math.min(n, text.length() - at);
                    for (int k = 0; k < some; k++) {
                        w = w << 8 | text.charAt(at + k);
                    }
                    due("feed by " + n, x.feed(w, some), at + some);
                }
                due("read, fed by " + n, x.plain(), 1);
                due("fill, fed by " + n, x.village(0, 0), 86);
                due("need, fed by " + n, x.village(0, 2), 75);
                due("night, fed by " + n, x.village(0, 5), 84);
            }
        }
    }

    /** "The tape, empty then, is read": behind what is read, and behind a FAULT. */
    private static void emptyThen() {
        NightWells x = new NightWells();
        due("nothing there", x.plain(), -1000100);
        due("its fault", x.fault(), 1);
        due("law alone", read(x, "law 1 9;"), 0);
        due("tape", x.count(6), 0);
        due("the same not again", x.plain(), -1000100);
        due("a fault", read(x, "law 1 9; " + VILLAGE + "village calm 9"), -1000142);
        due("tape", x.count(6), 0);
        due("shorter, behind it", read(x, "law 1"), -1000105);
        due("from the first byte on", read(x, "law 1 9;"), 0);
        read(x, "lawyer 12345;");
        due("nothing of the name before", read(x, "law"), -1000103);
        read(x, "law 1 11111111;");
        due("nothing of the number before", read(x, "law 1 1"), -1000107);
        read(x, "law 1 9;" + VILLAGE);
        due("nothing of the sign before", read(x, "law 1 9"), -1000107);
        due("nothing of the village before", read(x, "law 1 9;"), 0);
        feedBlanks(x, 400);
        due("as much as there may be", x.plain(), -1000500);
        due("room again", x.feed(32, 8), 8);
    }

    /** "NAMES (letters a to z), NUMBERS (figures), SIGNS ; bytes 32 and 10": every other byte is none. */
    private static void everyByte() {
        for (int b = 0; b < 256; b++) {
            NightWells x = new NightWells();
            int got = read(x, "law" + (char) b + "5 9;" + VILLAGE);
            boolean letter = b >= 97 && b <= 122;
            boolean figure = b >= 48 && b <= 57;
            boolean blank = b == 32 || b == 10;
            due("plain with byte " + b, got, letter ? -1000100 : figure || blank ? 1 : -1000103);
            due("fault with byte " + b, x.fault(), figure || blank ? 0 : 1);
            due("night with byte " + b, x.village(0, 5), figure ? 10 * (b - 48) + 5 : blank ? 5 : BAD);
        }
    }

    /** The letters and figures of names and numbers, the last ones of each. */
    private static void lettersAndFigures() {
        dueRead("law 90 190;village lazy 109 90 9;village awake 190 9 90;", 2);
        dueFault("l`w 1 9;", 1, 0);
        dueFault("law` 1 9;", 1, 3);
        dueFault("law{ 1 9;", 1, 3);
        dueFault("LAW 1 9;", 1, 0);
        dueFault("laW 1 9;", 1, 0);
        dueFault("law /1 9;", 1, 4);
        dueFault("law 1: 9;", 1, 5);
        dueFault("law 1 9:", 1, 7);
        dueFault("law 1 9<", 1, 7);
        dueFault("law -1 9;", 1, 4);
        dueFault("law +1 9;", 1, 4);
        dueFault("law 1.0 9;", 1, 5);
    }

    /** "bytes 32 and 10 ahead of, between, behind these, as many as wanted". */
    private static void asManyBlanksAsWanted() {
        String[] parts = {"", "law", "1", "9", ";", "village", "calm", "0", "0", "0", ";", ""};
        for (int gap = 0; gap + 1 < parts.length; gap++) {
            for (String blank : List.of(" ", "\n", "  ", "\n \n", " ".repeat(340), "\n".repeat(340))) {
                StringBuilder text = new StringBuilder();
                for (int p = 0; p < parts.length; p++) {
                    text.append(parts[p]).append(p == gap ? blank : p == 0 || p + 2 >= parts.length ? "" : " ");
                }
                dueRead(text.toString(), 1);
            }
        }
        dueRead(" ".repeat(392) + "law 1 9;", 0);
        dueRead("law 1 9;" + " ".repeat(392), 0);
        dueRead("law 1 9" + "\n".repeat(392) + ";", 0);
    }

    /** "none is needed where one ends without". */
    private static void noBlankNeeded() {
        dueRead("law6 40;village calm20 5 7;village lazy40 99 99;", 2);
        NightWells x = told("law6 40;village calm20 5 7;");
        dueFills("law6", x, 20);
        due("law6", x.village(0, 5), 6);
        dueFault("lawvillage 1 9;", 1, 0);
        dueFault("law 1 9;villagecalm 0 0 0;", 1, 8);
        dueFault("law 64;", 1, 6);
        dueFault("law 6400;", 1, 4);
        dueFault("la w 1 9;", 1, 0);
    }

    /** "law: 'law' NIGHT ROOM ';' (0 to 99; 1 to 999)". */
    private static void nightAndRoom() {
        for (int night : new int[] {0, 1, 98, 99}) {
            due("night " + night, told("law " + night + " 9;" + VILLAGE).village(0, 5), night);
        }
        due("night 00", told("law 00 9;" + VILLAGE).village(0, 5), 0);
        due("night 099", told("law 099 9;" + VILLAGE).village(0, 5), 99);
        dueFault("law 100 9;", 2, 4);
        dueFault("law 999 9;", 2, 4);
        for (int room : new int[] {1, 2, 998, 999}) {
            NightWells x = told("law 0 " + room + ";village proud " + room + " 0 0;");
            x.day(99);
            dueFills("room " + room, x, room);
        }
        dueRead("law 0 001;", 0);
        dueFault("law 1 0;", 2, 6);
        dueFault("law 1 00;", 2, 6);
        dueFault("law 1 000;", 2, 6);
        dueFault("law 1 1000;", 1, 6);
    }

    /** "village: SORT FILL FLOW NEED (0 to ROOM; 0 to 99 both)". */
    private static void fillFlowNeed() {
        for (int room : new int[] {1, 2, 9, 10, 99, 100, 998}) {
            dueFills("fill 0", told("law 1 " + room + ";village calm 0 0 0;"), 0);
            dueFills("fill " + room, told("law 1 " + room + ";village calm " + room + " 0 0;"), room);
            String law = "law 1 " + room + ";village calm ";
            dueFault(law + (room + 1) + " 0 0;", 2, law.length());
            dueFault(law + "999 0 0;", 2, law.length());
        }
        dueFills("fill 999", told("law 1 999;village calm 999 0 0;"), 999);
        dueFault("law 1 999;village calm 1000 0 0;", 1, 23);
        NightWells x = told("law 1 9;village calm 0 99 0;village calm 0 0 99;village calm 0 099 00;");
        due("flow 99", x.village(0, 1), 99);
        due("need 0", x.village(0, 2), 0);
        due("flow 0", x.village(1, 1), 0);
        due("need 99", x.village(1, 2), 99);
        due("flow 099", x.village(2, 1), 99);
        dueFault("law 1 9;village calm 0 100 0;", 2, 23);
        dueFault("law 1 9;village calm 0 0 100;", 2, 25);
        dueFault("law 1 9;village calm 0 999 0;", 2, 23);
        dueFault("law 1 9;village calm 0 0 999;", 2, 25);
        dueFault("law 1 9;" + VILLAGE + "village calm 0 0 100;", 2, 44);
    }

    /** "SORT: 'calm' | 'lazy' | 'strong' | 'awake' | 'proud'": these words whole, and no others. */
    private static void sorts() {
        for (int kind = 1; kind <= 5; kind++) {
            String sort = SORTS.get(kind);
            due(sort, told("law 1 9;village " + sort + " 0 0 0;").kind(0), kind);
            String shorter = sort.substring(0, sort.length() - 1);
            for (String other : List.of(shorter, sort + "s", sort + sort, sort.substring(1), "x" + sort.substring(1), shorter + "x")) {
                dueFault("law 1 9;village " + other + " 0 0 0;", 1, 16);
            }
        }
        for (String other : List.of("village", "law", "a", "z", "5", "1000", ";", "#", "")) {
            dueFault("law 1 9;village " + other, 1, 16);
        }
    }

    /** "VILLAGES 0 .. 6, 7 at most"; "a village more than there is room for (its word)". */
    private static void villagesAtMost() {
        for (int many = 0; many <= 7; many++) {
            dueRead("law 1 9;" + VILLAGE.repeat(many), many);
            dueRead("law 1 9;" + VILLAGE.repeat(many) + " \n", many);
        }
        String seven = "law 1 9;" + VILLAGE.repeat(7);
        dueFault(seven + VILLAGE, 3, 141);
        dueFault(seven + "\n  " + VILLAGE, 3, 144);
        dueFault(seven + VILLAGE.repeat(3), 3, 141);
        dueFault(seven + "village", 3, 141);
        dueFault(seven + "village law 1000 #", 3, 141);
        dueFault(seven + "villages calm 0 0 0;", 1, 141);
        dueFault(seven + "villag", 1, 141);
        dueFault(seven + "calm", 1, 141);
        dueFault(seven + ";", 1, 141);
        dueFault(seven + "0", 1, 141);
        dueFault(seven + "#", 1, 141);
        String six = "law 1 9;" + VILLAGE.repeat(6);
        dueFault(six + "village calm 0 0 100;", 2, 139);
        dueFault(six + "village calm 0 0 0", 1, 140);
        NightWells x = told(six + "village proud 8 7 6;");
        due("the seventh", x.village(6, 0), 8);
        due("its flow", x.village(6, 1), 7);
        due("its need", x.village(6, 2), 6);
        due("no eighth", x.village(7, 0), BAD);
    }

    /** "1 it cannot stand there, or is none": each token in each place; "the end: how many bytes there are". */
    private static void whereNothingElseCanStand() {
        String[] due = {"law", "8", "9", ";", "village", "calm", "7", "6", "5", ";", "village", "proud"};
        String[] others = {"law", "village", "calm", "lawn", "8", "0", "1000", "0000", "12345", ";", "#", "" + (char) 200, ""};
        for (int p = 0; p < due.length; p++) {
            for (String other : others) {
                boolean figures = other.length() == 1 && Character.isDigit(other.charAt(0));
                boolean may = other.equals(due[p]) || figures && Character.isDigit(due[p].charAt(0))
                        || other.equals("calm") && due[p].equals("proud") || other.isEmpty() && due[p].equals("village");
                if (!may) {
                    StringBuilder text = new StringBuilder();
                    for (int q = 0; q < p; q++) {
                        text.append(due[q]).append(q % 2 == 0 ? " " : "\n");
                    }
                    int place = text.length();
                    dueFault(text + other + (other.isEmpty() ? "" : " ; 100 x 1000"), 1, place);
                }
            }
        }
        dueFault("", 1, 0);
        dueFault(" ", 1, 1);
        dueFault("\n".repeat(400), 1, 400);
        dueFault("law 1 9;village calm 0 0 0" + " ".repeat(374), 1, 400);
        dueFault(" ".repeat(397) + "law", 1, 400);
        dueFault("law" + " ".repeat(396) + "1", 1, 400);
        dueFault("law 1" + " ".repeat(392) + "999", 1, 400);
        dueFault("law 1 9;" + " ".repeat(385) + "village", 1, 400);
        dueFault("law 1 9;" + " ".repeat(391) + "#", 1, 399);
        dueFault(" ".repeat(399) + ";", 1, 399);
        dueFault("a".repeat(400), 1, 0);
        dueFault("0".repeat(400), 1, 0);
        dueFault(";".repeat(400), 1, 0);
    }

    /** "a run of four figures or more, at its first": whatever its number would be. */
    private static void runsOfFigures() {
        for (String run : List.of("0000", "0001", "1000", "9999", "00000", "12345678901234567890", "4294967297", "0".repeat(100))) {
            dueFault("law " + run + " 9;", 1, 4);
            dueFault("law 1 " + run + ";", 1, 6);
            dueFault("law " + run, 1, 4);
            dueFault("law 1 9;village calm " + run + " 0 0;", 1, 21);
            dueFault("law 1 9;village calm 0 0" + run + " 0;", 1, 23);
            dueFault("law 1 9;village calm 0 0 " + run, 1, 25);
            dueFault("law" + run, 1, 3);
            dueFault(run, 1, 0);
        }
        for (String run : List.of("0", "1", "01", "001", "000", "9")) {
            dueRead("law " + run + " 9;", 0);
        }
    }

    /** "the first TOKEN that has one", though later ones have lesser numbers. */
    private static void theFirstToken() {
        dueFault("law 100 0;", 2, 4);
        dueFault("law 100 x", 2, 4);
        dueFault("law 1 0 #", 2, 6);
        dueFault("law 1 9;village calm 10 100 100;", 2, 21);
        dueFault("law 1 9;village calm 9 100 1000;", 2, 23);
        dueFault("law 1 9;village cal 10 100 100;", 1, 16);
        dueFault("# law 100 0;", 1, 0);
        String seven = "law 1 9;" + VILLAGE.repeat(7);
        dueFault(seven + "village cal 10 100 100;", 3, 141);
    }

    /** "fault(): the number of the latest FAULT; 0 before one". */
    private static void latestFault() {
        NightWells x = new NightWells();
        due("before one", x.fault(), 0);
        read(x, "law 1 9;");
        due("before one, read", x.fault(), 0);
        read(x, "law 100 9;");
        due("a number", x.fault(), 2);
        read(x, "law 1 9;");
        due("read since", x.fault(), 2);
        x.feed(32, 0);
        x.day(-1);
        due("refused since", x.fault(), 2);
        read(x, "law 1 9;" + VILLAGE.repeat(8));
        due("a village more", x.fault(), 3);
        x.plain();
        due("the end", x.fault(), 1);
        x.image(0);
        x.restore(0);
        due("restored since", x.fault(), 1);
    }

    /** "A PLAIN that is read stands in place of the one before (none at first)", and what is then as at first. */
    private static void inPlaceOfTheOneBefore() {
        NightWells x = new NightWells();
        due("none at first", x.day(0), STATE);
        due("none at first, images", x.image(0), STATE);
        due("one", read(x, "law 3 9;village calm 1 0 9;village proud 0 1 0;village awake 5 5 9;"), 3);
        x.row(2, INTS, 4);
        x.guard(0, 1);
        x.guard(1, 1);
        x.day(0);
        x.day(2);
        x.image(0);
        int lacked = x.count(5);
        due("somebody lacked", lacked > 0 ? 1 : 0, 1);
        x.ask(1, 0);
        // What is foretold goes ahead in a plain of its own, of which nothing may come into the one that is read.
        x.ahead(0, 60, 0);
        x.guards(20);
        x.rest(1);
        x.rest(0);
        due("another", read(x, "law 4 20;village strong 2 1 1;village lazy 3 0 0;"), 2);
        due("villages", x.count(1), 2);
        due("no third one", x.village(2, 0), BAD);
        dueFills("another", x, 2, 3);
        due("day 0 is to come", x.count(2), 0);
        due("nobody guards", x.village(0, 3) + x.village(1, 3), 0);
        due("nobody lacked yet", x.count(5) + x.village(0, 4) + x.village(1, 4), 0);
        due("no act", x.count(4), 0);
        due("no act can be undone", x.undo(), STATE);
        due("rows stay", x.count(0), 1);
        due("rows stay", x.set(2, 3, 5), 5);
        due("no image of it", x.restore(1), STATE);
        due("images stay", x.restore(0), 1);
        due("the image's villages", x.count(1), 3);
        due("the image's days", x.count(2), 2);
        due("the image's lacks", x.count(5), lacked);
        due("none, in place of that", read(x, "law 1 9;"), 0);
        due("no villages", x.count(1), 0);
        due("no village", x.village(0, 0), BAD);
        due("it can be kept", x.image(1), 1);
        due("it has days", x.day(0), 0);
        due("it has days", x.count(2), 1);
    }

    /** "-1000100 less the place of a FAULT: all but the tape, and what fault() tells, stays". */
    private static void allStaysByAFault() {
        for (String text : List.of("", "x", "law 5 77 village", "law 5 77;village strong 1 2 100;", "law 5 77;" + VILLAGE.repeat(8),
                "law 5 77;village lazy 9 9 9;village calm 1 2 3", "law 100 5;")) {
            NightWells x = told("law 3 9;village calm 1 0 9;village proud 4 4 4;");
            x.guard(1, 1);
            x.day(0);
            x.ask(1, 0);
            x.set(0, 0, 0);
            due("a fault of <" + text + ">", read(x, text) <= -1000100 ? 1 : 0, 1);
            String by = "by <" + text + ">";
            due("tape " + by, x.count(6), 0);
            due("villages " + by, x.count(1), 2);
            due("days " + by, x.count(2), 1);
            due("lacks " + by, x.count(5), 8);
            due("lack " + by, x.village(0, 4), 8);
            due("kind " + by, x.kind(1), 3);
            due("flow " + by, x.village(1, 1), 4);
            due("need " + by, x.village(1, 2), 4);
            due("night " + by, x.village(0, 5), 3);
            due("guard " + by, x.village(1, 3), 1);
            dueFills("fills " + by, x, 0, 4);
            dueTrace("trace " + by, x, 11, 10, 22, 21, 20);
            due("status " + by, x.status(), 1);
            due("acts " + by, x.undo(), 1);
            dueFills("undone " + by, x, 1, 4);
            x.day(99);
            dueFills("room " + by, x, 0, 5);
        }
    }

    public static void main(String[] args) {
        tapeAtMost();
        noneComesWhenFull();
        bytesOfOneCall();
        lowestBytesHighestFirst();
        emptyThen();
        everyByte();
        lettersAndFigures();
        asManyBlanksAsWanted();
        noBlankNeeded();
        nightAndRoom();
        fillFlowNeed();
        sorts();
        villagesAtMost();
        whereNothingElseCanStand();
        runsOfFigures();
        theFirstToken();
        latestFault();
        inPlaceOfTheOneBefore();
        allStaysByAFault();
        end("all edges of texts hold");
    }
}
