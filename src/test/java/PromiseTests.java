/** The promises 1 to 29, a method each: ordinary calls, the edges that the document names, wrong calls. */
public final class PromiseTests extends Checks {
    private static void promise1() {
        NightWells x = new NightWells();
        for (int what = 0; what <= 6; what++) {
            due("1: count(" + what + ")", x.count(what), 0);
        }
        due("1: day", x.day(0), STATE);
        due("1: kind", x.kind(0), BAD);
        due("1: status", x.status(), 0);
        due("1: fault", x.fault(), 0);
        due("1: trace", x.trace(0), NONE);
        due("1: restore", x.restore(0), STATE);
        due("1: NONE", NightWells.NONE, NONE);
        due("1: BAD", NightWells.BAD, BAD);
        due("1: STATE", NightWells.STATE, STATE);
        due("1: FULL", NightWells.FULL, FULL);
    }

    private static void promise2() {
        NightWells x = new NightWells();
        due("2: row", x.row(0, 0, 40), 40);
        due("2: none", x.row(7, 2, 0), 0);
        due("2: rows", x.count(0), 2);
        due("2: ROW below", x.row(-1, 0, 1), BAD);
        due("2: ROW above", x.row(8, 0, 1), BAD);
        due("2: LANE below", x.row(0, -1, 1), BAD);
        due("2: LANE above", x.row(0, 3, 1), BAD);
        due("2: n above", x.row(0, 0, 41), BAD);
        due("2: SIZE", x.row(0, 0, -1), SIZE);
        due("2: SIZE, far below", x.row(1, 2, LOW), SIZE);
        due("2: BAD ahead of SIZE", x.row(8, 0, -1), BAD);
        due("2: the row stayed", x.set(0, 39, 5), 5);
        due("2: no row by SIZE", x.count(0), 2);
        due("2: in place", x.row(0, 2, 3), 3);
        due("2: still two", x.count(0), 2);
        due("2: shorter now", x.set(0, 3, 1), PLACE);
        due("2: longer again", x.row(0, 0, 40), 40);
        due("2: into ints", x.row(1, 0, 40), 40);
        NightWells y = told("law 1 9; village calm 0 0 0;");
        y.row(0, 0, 1);
        y.set(0, 0, 5);
        y.row(0, 0, 1);
        due("2: items are 0 at first, anew", y.drew(0, 0), 2);
    }

    private static void promise3() {
        NightWells x = new NightWells();
        x.row(0, 0, 2);
        x.row(1, 1, 2);
        x.row(2, 2, 2);
        due("3: byte", x.set(0, 0, 127), 127);
        due("3: byte with its sign", x.set(0, 0, 128), -128);
        due("3: byte's lowest bits", x.set(0, 1, 0x12345), 0x45);
        due("3: byte below", x.set(0, 1, -129), 127);
        due("3: short", x.set(1, 1, 32767), 32767);
        due("3: short with its sign", x.set(1, 0, 32768), -32768);
        due("3: short's lowest bits", x.set(1, 0, 0x7fff0003), 3);
        due("3: int", x.set(2, 0, LOW), LOW);
        due("3: int", x.set(2, 1, HIGH), HIGH);
        due("3: ROW below", x.set(-1, 0, 0), BAD);
        due("3: ROW above", x.set(8, 0, 0), BAD);
        due("3: BAD ahead of PLACE", x.set(8, 9, 0), BAD);
        due("3: NULL", x.set(3, 0, 0), NULL);
        due("3: NULL ahead of PLACE", x.set(3, 99, 0), NULL);
        due("3: PLACE below", x.set(0, -1, 0), PLACE);
        due("3: PLACE above", x.set(0, 2, 0), PLACE);
        due("3: PLACE far", x.set(0, LOW, 0), PLACE);
        due("3: PLACE far", x.set(0, HIGH, 0), PLACE);
    }

    private static void promise4() {
        NightWells x = told("law 0 99; village calm 1 0 0; village calm 1 0 0; village calm 2 0 0; village calm 3 0 0;");
        tell(x, 0, 1, 2, 3, 4, 5);
        due("4: over itself, up", x.copy(0, 0, 0, 1, 3), 3);
        due("4: as they were ahead", x.drew(0, 0), 16);
        tell(x, 0, 9, 1, 1, 2, 3);
        due("4: over itself, down", x.copy(0, 1, 0, 0, 4), 4);
        due("4: as they were ahead", x.drew(0, 0), 16);
        tell(x, 1, 1, 1, 2, 3);
        tell(x, 2, 0, 0, 0, 0);
        due("4: to another", x.copy(1, 0, 2, 0, 4), 4);
        due("4: came", x.drew(2, 0), 16);
        due("4: none, at the ends", x.copy(1, 4, 2, 4, 0), 0);
        due("4: none", x.copy(1, 0, 2, 0, 0), 0);
        due("4: ROW a", x.copy(8, 0, 1, 0, 0), BAD);
        due("4: ROW b", x.copy(1, 0, -1, 0, 0), BAD);
        due("4: BAD ahead of NULL", x.copy(5, 0, -1, 0, 0), BAD);
        due("4: NULL a", x.copy(5, 0, 1, 0, 0), NULL);
        due("4: NULL b", x.copy(1, 0, 5, 0, 0), NULL);
        due("4: NULL ahead of PLACE", x.copy(1, -1, 5, 0, 0), NULL);
        x.row(3, 1, 4);
        due("4: STORE", x.copy(1, 0, 3, 0, 1), STORE);
        due("4: STORE, of none", x.copy(1, 0, 3, 0, 0), STORE);
        due("4: STORE ahead of PLACE", x.copy(1, 9, 3, 0, 1), STORE);
        due("4: PLACE i below", x.copy(1, -1, 2, 0, 1), PLACE);
        due("4: PLACE j below", x.copy(1, 0, 2, -1, 1), PLACE);
        due("4: PLACE n below", x.copy(1, 0, 2, 0, -1), PLACE);
        due("4: PLACE beyond a", x.copy(1, 2, 2, 0, 3), PLACE);
        due("4: PLACE beyond b", x.copy(1, 0, 2, 2, 3), PLACE);
        due("4: PLACE i beyond, of none", x.copy(1, 5, 2, 0, 0), PLACE);
        due("4: PLACE j beyond, of none", x.copy(1, 0, 2, 5, 0), PLACE);
        due("4: PLACE, sums that wrap", x.copy(1, HIGH, 2, HIGH, HIGH), PLACE);
        due("4: PLACE, n that wraps", x.copy(1, 1, 2, 1, HIGH), PLACE);
        due("4: PLACE, far below", x.copy(1, LOW, 2, LOW, LOW), PLACE);
        due("4: nothing came by findings", x.drew(2, 0), 16);
    }

    private static void promise5() {
        NightWells x = new NightWells();
        x.row(3, 1, 12);
        due("5: drop", x.drop(3), 12);
        due("5: rows", x.count(0), 0);
        due("5: missing", x.drop(3), NULL);
        due("5: nothing to set", x.set(3, 0, 0), NULL);
        due("5: ROW below", x.drop(-1), BAD);
        due("5: ROW above", x.drop(8), BAD);
        due("5: never there", x.drop(7), NULL);
    }

    private static void promise6() {
        NightWells x = new NightWells();
        due("6: n below", x.feed(1, 0), BAD);
        due("6: n above", x.feed(1, 9), BAD);
        due("6: n far below", x.feed(1, LOW), BAD);
        due("6: three", x.feed(0x6c6177L, 3), 3);
        due("6: the lowest alone", x.feed(0x1111111100203120L, 3), 6);
        due("6: eight", x.feed(0x2031203b20202020L, 8), 14);
        due("6: read", x.plain(), 0);
        for (int k = 1; k <= 50; k++) {
            due("6: fifty of eight", x.feed(0x2020202020202020L, 8), 8 * k);
        }
        due("6: FULL", x.feed(32, 1), FULL);
        due("6: BAD ahead of FULL", x.feed(32, 0), BAD);
        due("6: nothing came", x.count(6), 400);
        due("6: place of the end", x.plain(), -1000500);
        for (int k = 1; k <= 49; k++) {
            x.feed(0x2020202020202020L, 8);
        }
        due("6: 396", x.feed(0x20202020L, 4), 396);
        due("6: none of five", x.feed(0x2020202020L, 5), FULL);
        due("6: still 396", x.count(6), 396);
        due("6: just four", x.feed(0x20202020L, 4), 400);
    }

    private static void promise7() {
        NightWells x = told("law 6 40; village calm 20 5 7; village lazy 40 99 99;");
        due("7: villages", x.count(1), 2);
        due("7: tape is empty", x.count(6), 0);
        due("7: none needed between", told("law6 40;village calm20 5 7;").village(0, 0), 20);
        due("7: blanks and line ends", told("\n\n law\n06   040\n;\n village calm\n 007 00 0 ; \n").village(0, 0), 7);
        due("7: greatest", told("law 99 999; village calm 999 99 99;").village(0, 2), 99);
        due("7: least", told("law 0 1; village calm 0 0 0;").village(0, 0), 0);
        due("7: seven", told("law 0 1; village calm 0 0 0; village calm 0 0 0; village calm 0 0 0; village calm 0 0 0; "
                + "village calm 0 0 0; village calm 0 0 0; village calm 1 0 0;").village(6, 0), 1);
        x.guard(0, 1);
        x.day(0);
        x.day(0);
        x.image(1);
        x.row(0, 0, 1);
        x.rest(0);
        feed(x, "law 7 40; village calm 20 5 1000;");
        due("7: a fault", x.plain(), -1000128);
        due("7: the plain stays", x.count(1), 2);
        due("7: its days stay", x.count(2), 2);
        due("7: its acts stay", x.count(4), 3);
        due("7: its guards stay", x.village(0, 3), 1);
        due("7: the tape is empty", x.count(6), 0);
        x.rest(0);
        feed(x, "law 7 41; village strong 3 2 1;");
        due("7: another in its place", x.plain(), 1);
        due("7: day 0", x.count(2), 0);
        due("7: no acts", x.count(4), 0);
        due("7: nothing to undo", x.undo(), STATE);
        due("7: nobody guards", x.village(0, 3), 0);
        due("7: nobody lacked", x.count(5), 0);
        due("7: rows stay", x.count(0), 1);
        due("7: images stay", x.restore(1), 1);
        due("7: the image's villages", x.count(1), 2);
        x.rest(0);
        feed(x, "law 7 41;");
        due("7: none in its place", x.plain(), 0);
        due("7: none in its place", x.count(1), 0);
        NightWells thirsty = told("law 7 41; village calm 0 0 9;");
        thirsty.day(0);
        thirsty.rest(0);
        feed(thirsty, "law 7 41; village calm 0 0 9;");
        thirsty.plain();
        due("7: nobody lacked yet", thirsty.village(0, 4), 0);
    }

    private static void promise8() {
        NightWells x = told("law 1 1;");
        due("8: none yet", x.fault(), 0);
        feed(x, "law 100 1;");
        due("8: a fault", x.plain(), -1000104);
        due("8: its number", x.fault(), 2);
        feed(x, "law 1 1;");
        due("8: read", x.plain(), 0);
        due("8: the latest yet", x.fault(), 2);
        feed(x, "lawyer 12345;");
        x.plain();
        feed(x, "law");
        due("8: nothing of the tape before, a name", x.plain(), -1000103);
        feed(x, "law 1 11111111;");
        x.plain();
        feed(x, "law 1 1");
        due("8: nothing of the tape before, a number", x.plain(), -1000107);
        due("8: nothing of the tape before", x.fault(), 1);
        dueFault("", 1, 0);
        dueFault("  \n", 1, 3);
        dueFault("law", 1, 3);
        dueFault("laws 1 1;", 1, 0);
        dueFault("la 1 1;", 1, 0);
        dueFault("Law 1 1;", 1, 0);
        dueFault(" village calm 0 0 0;", 1, 1);
        dueFault("law x 1;", 1, 4);
        dueFault("law 1234 1;", 1, 4);
        dueFault("law 0001 1;", 1, 4);
        dueFault("law 12345678901234567890 1;", 1, 4);
        dueFault("law 1 0;", 2, 6);
        dueFault("law 1 000;", 2, 6);
        dueFault("law 999 0;", 2, 4);
        dueFault("law 1 1 village", 1, 8);
        dueFault("law 1 1 200;", 1, 8);
        dueFault("law 1 1;;", 1, 8);
        dueFault("law 1 1; law 1 1;", 1, 9);
        dueFault("law 1 1; village", 1, 16);
        dueFault("law 1 1; villages calm 0 0 0;", 1, 9);
        dueFault("law 1 1; villagecalm 0 0 0;", 1, 9);
        dueFault("law 1 1; village kind 0 0 0;", 1, 17);
        dueFault("law 1 1; village village 0 0 0;", 1, 17);
        dueFault("law 1 1; village calmer 0 0 0;", 1, 17);
        dueFault("law 1 1; village 999 0 0 0;", 1, 17);
        dueFault("law 1 40; village calm 41 0 0;", 2, 23);
        dueFault("law 1 40; village calm 40 100 0;", 2, 26);
        dueFault("law 1 40; village calm 40 99 100;", 2, 29);
        dueFault("law 1 40; village calm 40 99 99", 1, 31);
        dueFault("law 1 40; village calm 40 99 99 ", 1, 32);
        dueFault("law 1 40; village calm 40 99 ;", 1, 29);
        dueFault("law\t1 40;", 1, 3);
        dueFault("law 1 40;" + (char) 225, 1, 9);
        dueFault("law 1 40;" + (char) 0, 1, 9);
        dueFault("law#1", 1, 3);
        dueFault("law 1,4;", 1, 5);
        String seven = "law 1 1;" + "village calm 0 0 0;".repeat(7);
        dueFault(seven + "village calm 0 0 0;", 3, 141);
        dueFault(seven + " village x", 3, 142);
        dueFault(seven + "village", 3, 141);
        dueFault(seven + "lazy", 1, 141);
    }

    private static void promise9() {
        NightWells x = told("law 6 40; village calm 20 5 7; village lazy 10 4 6; village strong 3 9 2; village awake 30 1 8; village proud 12 6 9;");
        // by day 18 8 10 23 9; 0 draws 6 of 1, 1 draws 3 of 2, the awake one watches, 3 draws 6 of 4, the proud one none
        due("9: nobody lacked", x.day(0), 0);
        dueFills("9: first day", x, 24, 5, 7, 29, 3);
        due("9: one gone", x.count(2), 1);
        due("9: rain to the brim", x.day(99), 0);
        // by day 33 34 38 32 31
        dueFills("9: rainy day", x, 39, 31, 35, 38, 25);
        NightWells y = told("law 9 99; village calm 0 1 5; village calm 9 0 9; village calm 2 0 3;");
        due("9: those who lacked", y.day(0), 5);
        due("9: lacked 0", y.village(0, 4), 4);
        due("9: lacked 1", y.village(1, 4), 0);
        due("9: lacked 2", y.village(2, 4), 1);
        NightWells z = told("law 5 20; village calm 0 0 0; village calm 18 0 0; village strong 20 0 0;");
        // in order: 5 from 1 to 0, then 5 from 2 to 1, then 5, all there is, from 0 to 2, where 15 were
        due("9: night in order", z.day(0), 0);
        dueFills("9: night in order", z, 0, 18, 20);
        NightWells spilt = told("law 9 20; village calm 19 0 0; village proud 20 0 0;");
        due("9: spilt", spilt.day(0), 0);
        dueFills("9: spilt", spilt, 20, 11);
        NightWells alone = told("law 9 20; village strong 12 3 1;");
        due("9: alone", alone.day(1), 0);
        dueFills("9: alone", alone, 15);
        NightWells seven = told("law 1 9;" + " village calm 1 1 3;".repeat(7));
        due("9: seven", seven.day(0), 127);
        due("9: seven", seven.count(5), 7);
        due("9: RAIN below", x.day(-1), BAD);
        due("9: RAIN above", x.day(100), BAD);
        due("9: no day by them", x.count(2), 2);
        due("9: STATE ahead of BAD", new NightWells().day(-1), STATE);
        due("9: no villages", told("law 1 1;").day(5), 0);
    }

    private static void promise10() {
        NightWells x = told("law 0 999; village proud 0 0 0;");
        due("10: seed 1", x.weather(1), 7);
        dueFills("10: seed 1", x, 7);
        due("10: seed 2", x.weather(2), 14);
        dueFills("10: seed 2", x, 21);
        // 999999 times 16807 is 16806983193; less 7 times 2147483647 that is 1774597664
        due("10: greatest seed", x.weather(999999), 4);
        dueFills("10: greatest seed", x, 25);
        // 200000 times 16807 is 3361400000; less 2147483647 that is 1213916353
        due("10: beyond an int", x.weather(200000), 13);
        due("10: days", x.count(2), 4);
        due("10: acts", x.count(4), 4);
        due("10: undone", x.undo(), 3);
        dueFills("10: undone", x, 25);
        due("10: seed below", x.weather(0), BAD);
        due("10: seed above", x.weather(1000000), BAD);
        due("10: no day by them", x.count(2), 3);
        due("10: STATE ahead of BAD", new NightWells().weather(0), STATE);
    }

    private static void promise11() {
        NightWells x = told("law 5 20; village calm 10 0 0; village calm 10 0 0; village calm 10 0 0;");
        due("11: was not", x.guard(1, 1), 0);
        due("11: was", x.guard(1, 1), 1);
        due("11: acts, also of nothing", x.count(4), 2);
        due("11: day", x.day(0), 0);
        // out of 1's well nobody draws, 1 draws nothing, 2 draws 5 of 0
        dueFills("11: guarding", x, 5, 10, 15);
        due("11: not any more", x.guard(1, 0), 1);
        due("11: is not", x.village(1, 3), 0);
        due("11: others do not", x.village(0, 3) + x.village(2, 3), 0);
        due("11: village below", x.guard(-1, 1), BAD);
        due("11: village above", x.guard(3, 1), BAD);
        due("11: is below", x.guard(0, -1), BAD);
        due("11: is above", x.guard(0, 2), BAD);
        due("11: no plain", new NightWells().guard(0, 1), BAD);
        due("11: acts", x.count(4), 4);
    }

    private static void promise12() {
        NightWells x = told("law 4 50; village calm 10 0 6; village calm 10 0 5;");
        due("12: none", x.undo(), STATE);
        x.day(0);
        x.day(0);
        x.day(0);
        x.guard(0, 1);
        x.guard(0, 1);
        due("12: a guard of nothing", x.undo(), 4);
        due("12: guards yet", x.village(0, 3), 1);
        due("12: a guard", x.undo(), 3);
        due("12: guards no more", x.village(0, 3), 0);
        due("12: days", x.undo() + 10 * x.undo() + 100 * x.undo(), 12);
        dueFills("12: days", x, 10, 10);
        due("12: nobody lacked", x.count(5), 0);
        due("12: day 0", x.count(2), 0);
        due("12: none any more", x.undo(), STATE);
        for (int d = 0; d < 30; d++) {
            x.day(0);
            due("12: 24 at most", x.count(4), Math.min(24, d + 1));
        }
        for (int k = 23; k >= 0; k--) {
            due("12: the latest first", x.undo(), k);
            due("12: days then", x.count(2), k + 6);
        }
        due("12: the oldest are forgotten", x.undo(), STATE);
        due("12: no plain", new NightWells().undo(), STATE);
    }

    private static void promise13() {
        NightWells x = told("law 7 90; village calm 11 12 33; village lazy 9 8 7; village strong 1 0 0; village awake 2 0 0; village proud 3 0 0;");
        x.day(0);
        due("13: fill", x.village(0, 0), 7);
        due("13: flow", x.village(0, 1), 12);
        due("13: need", x.village(0, 2), 33);
        due("13: lacked", x.village(0, 4), 10);
        x.guard(0, 1);
        due("13: guards", x.village(0, 3), 1);
        due("13: calm wants, guarding", x.village(0, 5), 7);
        due("13: lazy wants half, cut", x.village(1, 5), 3);
        due("13: strong wants twice", x.village(2, 5), 14);
        due("13: awake wants", x.village(3, 5), 7);
        due("13: proud wants none", x.village(4, 5), 0);
        x.day(0);
        due("13: lacked in all", x.village(0, 4), 24);
        due("13: village below", x.village(-1, 0), BAD);
        due("13: village above", x.village(5, 0), BAD);
        due("13: what below", x.village(0, -1), BAD);
        due("13: what above", x.village(0, 6), BAD);
        due("13: no plain", new NightWells().village(0, 0), BAD);
    }

    private static void promise14() {
        NightWells x = told("law 1 50; village proud 10 2 5; village proud 0 1 0;");
        due("14: now", x.ahead(0, 0, 0), 10);
        due("14: lacked in none", x.ahead(0, 0, 1), 0);
        due("14: in three", x.ahead(0, 3, 0), 1);
        due("14: lacked in three", x.ahead(0, 3, 1), 0);
        due("14: lacked in four", x.ahead(0, 4, 1), 2);
        due("14: lacked in sixty", x.ahead(0, 60, 1), 2 + 56 * 3);
        due("14: the other", x.ahead(1, 60, 0), 50);
        dueFills("14: nothing changes", x, 10, 0);
        due("14: no day", x.count(2) + x.count(4) + x.count(5), 0);
        for (int d = 0; d < 4; d++) {
            x.day(0);
        }
        due("14: not what it lacked before", x.ahead(0, 1, 1), 3);
        due("14: village", x.ahead(2, 1, 0), BAD);
        due("14: village below", x.ahead(-1, 1, 0), BAD);
        due("14: n below", x.ahead(0, -1, 0), BAD);
        due("14: n above", x.ahead(0, 61, 0), BAD);
        due("14: what below", x.ahead(0, 1, -1), BAD);
        due("14: what above", x.ahead(0, 1, 2), BAD);
        due("14: no plain", new NightWells().ahead(0, 1, 0), BAD);
        x.guard(0, 1);
        NightWells y = told("law 4 50; village calm 0 0 0; village proud 9 0 0;");
        due("14: ahead", y.ahead(0, 2, 0), 8);
        y.guard(1, 1);
        due("14: by those who guard", y.ahead(0, 2, 0), 0);
    }

    private static void promise15() {
        NightWells x = told("law 1 50; village proud 10 2 5; village proud 0 1 0;");
        due("15: first", x.first(60), 3);
        due("15: just within", x.first(4), 3);
        due("15: not within", x.first(3), NONE);
        x.day(0);
        due("15: from now on", x.first(60), 2);
        due("15: of one", x.first(1), NONE);
        due("15: n below", x.first(0), BAD);
        due("15: n above", x.first(61), BAD);
        due("15: STATE ahead of BAD", new NightWells().first(0), STATE);
        due("15: no villages", told("law 1 1;").first(60), NONE);
        NightWells y = told("law 1 999; village proud 590 0 10; village proud 999 0 0;");
        due("15: the sixtieth", y.first(60), 59);
        due("15: not by 59", y.first(59), NONE);
        due("15: day itself", x.count(2), 1);
    }

    private static void promise16() {
        NightWells x = told("law 1 50; village proud 45 2 0; village proud 0 0 0;");
        due("16: at the brim", x.rest(0), 3);
        due("16: no ring", x.rest(1), NONE);
        x.day(9);
        due("16: rests", x.rest(0), 0);
        due("16: ring of one", x.rest(1), 1);
        due("16: the sixtieth", told("law 0 60; village proud 0 1 0;").rest(0), 60);
        due("16: too late", told("law 0 61; village proud 0 1 0;").rest(0), NONE);
        due("16: what below", x.rest(-1), BAD);
        due("16: what above", x.rest(2), BAD);
        due("16: STATE ahead of BAD", new NightWells().rest(2), STATE);
        due("16: no villages", told("law 1 1;").rest(0), 0);
        due("16: no villages, ring", told("law 1 1;").rest(1), 1);
        due("16: to and fro", told("law 9 20; village calm 9 0 0; village calm 0 0 0;").rest(1), NONE);
        due("16: to and fro, rests", told("law 9 20; village calm 9 0 0; village calm 0 0 0;").rest(0), 1);
        dueRing(3, "law 22 35; village strong 0 7 4; village strong 28 2 2; village strong 18 9 7; village strong 12 2 7;");
        dueRing(6, "law 17 32; village calm 0 2 10; village calm 12 8 5; village calm 17 5 10; village strong 16 5 4; "
                + "village strong 15 7 8; village strong 24 1 8; village calm 15 11 2;");
    }

    /** A plain that goes round: foretold, and then lived. */
    private static void dueRing(int days, String text) {
        NightWells x = told(text);
        due("16: ring of " + text, x.rest(1), days);
        due("16: no rest of " + text, x.rest(0), NONE);
        int[] fills = new int[x.count(1)];
        for (int v = 0; v < fills.length; v++) {
            fills[v] = x.village(v, 0);
        }
        for (int d = 1; d <= days; d++) {
            int moved = 0;
            x.day(0);
            for (int v = 0; v < fills.length; v++) {
                moved += x.village(v, 0) == fills[v] ? 0 : 1;
            }
            due("16: round on day " + d + " of " + text, moved == 0 ? 1 : 0, d == days ? 1 : 0);
        }
    }

    private static void promise17() {
        NightWells x = told("law 9 90; village proud 20 0 5; village calm 0 50 0; village proud 0 0 0;");
        due("17: nobody is drawn from", x.most(4), 99);
        due("17: too long", x.most(5), NONE);
        // by day 1 keeps 30 less NIGHT a night; it needs 10
        NightWells y = told("law 50 90; village calm 0 0 0; village proud 30 0 10;");
        due("17: one day", y.most(1), 99);
        due("17: two days", y.most(2), 10);
        due("17: three days", y.most(3), 0);
        due("17: four days", y.most(4), NONE);
        due("17: its own night stays", y.village(0, 5), 50);
        NightWells lazy = told("law 50 90; village lazy 0 0 0; village proud 30 0 10;");
        due("17: half, cut", lazy.most(2), 21);
        NightWells strong = told("law 50 90; village strong 0 0 0; village proud 30 0 11;");
        due("17: twice", strong.most(2), 4);
        // 0 lives by what it draws: little does not do
        NightWells more = told("law 0 90; village calm 0 0 10; village proud 90 0 0;");
        more.day(10);
        due("17: more helps", more.most(1), NONE);
        NightWells helps = told("law 0 90; village calm 10 0 10; village proud 90 0 0;");
        due("17: not by none", helps.first(3), 1);
        // the need of ten days stands there, and all of it comes over in the first night
        due("17: by much", helps.most(10), 99);
        due("17: by nothing", helps.most(11), NONE);
        y.guard(1, 1);
        due("17: by those who guard", y.most(3), 99);
        due("17: n below", x.most(0), BAD);
        due("17: n above", x.most(21), BAD);
        due("17: STATE ahead of BAD", new NightWells().most(0), STATE);
        due("17: no villages", told("law 1 1;").most(20), 99);
    }

    private static void promise18() {
        NightWells x = told("law 9 90; village proud 30 0 10; village calm 0 0 0; village proud 30 0 10;");
        due("18: one day", x.guards(1), 0);
        due("18: two days", x.guards(2), 0);
        // 1 draws from 2, unless one of them guards; from the others nobody draws
        due("18: three days", x.guards(3), 2);
        due("18: four days", x.guards(4), NONE);
        due("18: nobody guards by it", x.village(1, 3), 0);
        for (int v = 0; v < 3; v++) {
            x.guard(v, 1);
        }
        due("18: they alone", x.guards(1), 0);
        due("18: they alone", x.guards(3), 2);
        NightWells y = told("law 9 90; village calm 0 0 0; village proud 10 0 5; village calm 0 0 0; village proud 10 0 5;");
        due("18: the least of those with fewest", y.guards(2), 3 + 2);
        due("18: n below", x.guards(0), BAD);
        due("18: n above", x.guards(21), BAD);
        due("18: STATE ahead of BAD", new NightWells().guards(0), STATE);
        due("18: no villages", told("law 1 1;").guards(20), 0);
    }

    private static void promise19() {
        NightWells x = told("law 4 20; village calm 0 0 0; village lazy 10 0 0; village awake 6 0 0; village proud 8 0 0;");
        // 0 may draw 4 of 1, 1 nothing of the awake one, 2 may draw 4 of 3, 3 wants nothing
        tell(x, 0, 4, 6, 10, 4, 77);
        due("19: sets", x.drew(0, 0), 4);
        due("19: the least", x.drew(0, 1), 5);
        tell(x, 0, 0, 10, 6, 8);
        due("19: nobody", x.drew(0, 0), 4);
        due("19: nobody, the least", x.drew(0, 1), 0);
        tell(x, 0, 0, 10, 10, 4);
        due("19: just one", x.drew(0, 1), 4);
        tell(x, 0, 1, 10, 10, 4);
        due("19: nothing fits", x.drew(0, 0), 0);
        due("19: nothing fits", x.drew(0, 1), NONE);
        dueFills("19: nothing changes", x, 0, 10, 6, 8);
        x.guard(1, 1);
        tell(x, 0, 0, 10, 6, 8);
        due("19: by those who guard", x.drew(0, 0), 8);
        due("19: ROW below", x.drew(-1, 0), BAD);
        due("19: ROW above", x.drew(8, 0), BAD);
        due("19: what below", x.drew(0, -1), BAD);
        due("19: what above", x.drew(0, 2), BAD);
        due("19: NULL", x.drew(1, 0), NULL);
        due("19: BAD ahead of NULL", x.drew(1, 2), BAD);
        tell(x, 0, 0, 10, 6);
        due("19: PLACE", x.drew(0, 0), PLACE);
        due("19: STATE ahead of BAD", new NightWells().drew(9, 9), STATE);
        due("19: STATE ahead of NULL", new NightWells().drew(0, 0), STATE);
        NightWells y = told("law 1 1;");
        y.row(0, 0, 0);
        due("19: no villages", y.drew(0, 0) + 10 * y.drew(0, 1), 1);
        NightWells wide = told("law 0 200; village calm 200 0 0;");
        wide.row(0, 0, 1);
        wide.set(0, 0, 200);
        due("19: a byte with its sign", wide.drew(0, 0), 0);
        wide.row(0, 1, 1);
        wide.set(0, 0, 200);
        due("19: a short", wide.drew(0, 0), 2);
    }

    private static void promise20() {
        NightWells x = told("law 0 90; village proud 0 0 3; village proud 0 0 9; village proud 0 0 9;");
        due("20: the first of several", x.where(9, 2, 0), 1);
        due("20: what all lack then", x.where(9, 2, 1), 24);
        due("20: of all alike the first", x.where(3, 2, 0), 0);
        due("20: what all lack then", x.where(3, 1, 1), 18);
        due("20: the least f and n", x.where(1, 1, 1), 20);
        due("20: the greatest f and n", x.where(99, 20, 1), 20 * 12);
        due("20: flow stays", x.village(1, 1), 0);
        due("20: of seven the last", told("law 0 9;" + " village proud 0 1 1;".repeat(6) + " village proud 0 0 1;").where(1, 5, 0), 6);
        x.day(0);
        due("20: not what they lacked before", x.where(99, 1, 1), 12);
        due("20: f below", x.where(0, 1, 0), BAD);
        due("20: f above", x.where(100, 1, 0), BAD);
        due("20: n below", x.where(1, 0, 0), BAD);
        due("20: n above", x.where(1, 21, 0), BAD);
        due("20: what below", x.where(1, 1, -1), BAD);
        due("20: what above", x.where(1, 1, 2), BAD);
        due("20: no plain", new NightWells().where(0, 0, 0), STATE);
        due("20: no villages", told("law 1 1;").where(0, 0, 0), STATE);
    }

    private static void promise21() {
        NightWells x = told("law 0 90; village proud 11 0 3; village proud 0 0 3; village proud 90 0 0;");
        // 6 and 5: the first has two days, the other one and a part
        due("21: two days", x.wed(0, 1, 2), 1);
        due("21: five days", x.wed(0, 1, 5), 4);
        due("21: one day", x.wed(0, 1, 1), 0);
        due("21: brimful", x.wed(2, 0, 20), 20);
        dueFills("21: nothing changes", x, 11, 0, 90);
        NightWells y = told("law 0 90; village proud 5 0 3; village proud 0 0 2; village proud 0 0 0;");
        // 3 and 2 do, 2 and 3 do not
        due("21: the first one what is over", y.wed(0, 1, 1), 0);
        due("21: the first one what is over, the other way", y.wed(1, 0, 1), 1);
        NightWells z = told("law 0 90; village proud 7 0 2; village proud 4 0 1; village proud 0 0 0;");
        // 6 and 5, three days and five
        due("21: six and five", z.wed(0, 1, 3), 0);
        due("21: six and five, a day more", z.wed(0, 1, 4), 1);
        due("21: six and five, long", z.wed(0, 1, 20), 17);
        // 4 and 3, two days; the other one has its 4 yet
        due("21: with the third", z.wed(0, 2, 4), 2);
        due("21: alike", x.wed(0, 0, 1), BAD);
        due("21: a below", x.wed(-1, 0, 1), BAD);
        due("21: a above", x.wed(3, 0, 1), BAD);
        due("21: b below", x.wed(0, -1, 1), BAD);
        due("21: b above", x.wed(0, 3, 1), BAD);
        due("21: n below", x.wed(0, 1, 0), BAD);
        due("21: n above", x.wed(0, 1, 21), BAD);
        due("21: no plain", new NightWells().wed(0, 1, 1), BAD);
    }

    private static void promise22() {
        NightWells x = new NightWells();
        due("22: no plain", x.image(0), STATE);
        due("22: BAD ahead of STATE", x.image(2), BAD);
        feed(x, "law 1 9; village calm 5 1 0;");
        x.plain();
        due("22: kept", x.image(0), 1);
        due("22: kept", x.image(1), 1);
        due("22: k below", x.image(-1), BAD);
        due("22: k above", x.image(2), BAD);
        due("22: no act", x.count(4), 0);
        x.day(0);
        due("22: anew", x.image(1), 1);
        due("22: acts stay", x.count(4), 1);
        x.restore(0);
        dueFills("22: the first", x, 5);
        x.restore(1);
        dueFills("22: the second", x, 6);
    }

    private static void promise23() {
        NightWells x = told("law 3 9; village calm 5 1 7; village calm 9 0 0;");
        due("23: none was kept", x.restore(0), STATE);
        due("23: k below", x.restore(-1), BAD);
        due("23: k above", x.restore(2), BAD);
        x.day(0);
        x.guard(1, 1);
        x.image(0);
        feed(x, "law 50 99; village proud 88 2 3;");
        x.plain();
        x.day(0);
        due("23: restored", x.restore(0), 1);
        due("23: villages", x.count(1), 2);
        due("23: days", x.count(2), 1);
        due("23: lacked", x.count(5), 1);
        due("23: no act", x.undo(), STATE);
        due("23: guards", x.village(1, 3), 1);
        due("23: law", x.village(0, 5), 3);
        due("23: room", x.ahead(1, 0, 0), x.village(1, 0));
        x.day(99);
        dueFills("23: room", x, 2, 9);
        due("23: again", x.restore(0), 1);
        due("23: as it was", x.count(2), 1);
        due("23: the other was not kept", x.restore(1), STATE);
    }

    private static void promise24() {
        NightWells x = told("law 1 1; village calm 0 0 0; village lazy 0 0 0; village proud 0 0 0; village strong 0 0 0; village awake 0 0 0;");
        for (int v = 0; v < 5; v++) {
            due("24: kind", x.kind(v), v + 1);
        }
        due("24: below", x.kind(-1), BAD);
        due("24: above", x.kind(5), BAD);
    }

    private static void promise25() {
        NightWells x = told("law 1 1; village calm 0 0 0; village lazy 0 0 0; village proud 0 0 0; village strong 0 0 0; village awake 0 0 0;");
        String[] are = {"01", "012", "013", "04", "045"};
        for (int v = 0; v < 5; v++) {
            for (int kind = 0; kind <= 5; kind++) {
                due("25: " + v + " as " + kind, x.as(v, kind), are[v].indexOf('0' + kind) >= 0 ? v : KIND);
                due("25: status", x.status(), are[v].indexOf('0' + kind) >= 0 ? 0 : 3);
            }
        }
        due("25: village below", x.as(-1, 0), BAD);
        due("25: village above", x.as(5, 0), BAD);
        due("25: kind below", x.as(0, -1), BAD);
        due("25: kind above", x.as(0, 6), BAD);
    }

    private static void promise26() {
        NightWells x = told("law 1 900; village calm 500 7 0; village calm 20 7 0; village lazy 30 8 0; village proud 40 9 0; village strong 50 1 0; village awake 60 2 0;");
        due("26: size of calm", x.ask(1, 0), 20 + 1 + 7);
        dueTrace("26: size of calm", x, 11, 10, 21, 20);
        due("26: mark of calm", x.ask(1, 1), 8);
        dueTrace("26: mark of calm", x, 21, 20);
        due("26: size of lazy", x.ask(2, 0), -(30 + 2 * (2 + 8)));
        dueTrace("26: size of lazy", x, 12, 11, 10, 24, 21, 20);
        due("26: mark of lazy", x.ask(2, 1), 20);
        dueTrace("26: mark of lazy", x, 24, 21, 20);
        due("26: size of proud", x.ask(3, 0), 40 + 3 + 9 - 1000);
        dueTrace("26: size of proud", x, 11, 10, 22, 21, 20);
        due("26: mark of proud", x.ask(3, 1), 3 + 9 - 1000);
        dueTrace("26: mark of proud", x, 22, 21, 20);
        due("26: size of strong", x.ask(4, 0), -50);
        dueTrace("26: size of strong", x, 13, 10);
        due("26: mark of strong", x.ask(4, 1), 54);
        dueTrace("26: mark of strong", x, 23, 20, 13, 10);
        due("26: size of awake", x.ask(5, 0), -80);
        dueTrace("26: size of awake", x, 14, 13, 10);
        due("26: mark of awake", x.ask(5, 1), 85);
        dueTrace("26: mark of awake", x, 23, 20, 14, 13, 10);
        due("26: village below", x.ask(-1, 0), BAD);
        due("26: village above", x.ask(6, 0), BAD);
        due("26: what below", x.ask(0, -1), BAD);
        due("26: what above", x.ask(0, 2), BAD);
        dueTrace("26: where refused it stays", x, 23, 20, 14, 13, 10);
        x.day(0);
        due("26: fill as it is now", x.ask(0, 0), x.village(0, 0) + 7);
        due("26: no plain", new NightWells().ask(0, 0), BAD);
    }

    private static void promise27() {
        NightWells x = told("law 1 900; village strong 500 7 0;");
        due("27: empty", x.trace(0), NONE);
        x.ask(0, 0);
        due("27: first", x.trace(0), 13);
        due("27: last", x.trace(1), 10);
        due("27: beyond", x.trace(2), NONE);
        due("27: below", x.trace(-1), NONE);
        due("27: far", x.trace(16), NONE);
        due("27: far below", x.trace(LOW), NONE);
        due("27: far above", x.trace(HIGH), NONE);
        feed(x, "law 1 1;");
        x.plain();
        due("27: it stays by another plain", x.trace(0), 13);
    }

    private static void promise28() {
        NightWells x = told("law 0 50; village proud 10 0 12; village proud 30 0 31;");
        due("28: bytes", x.feed(32, 3), 3);
        x.row(1, 0, 0);
        x.row(2, 1, 4);
        x.row(7, 1, 4);
        due("28: wells", x.count(3), 40);
        x.day(0);
        x.day(0);
        x.guard(0, 0);
        due("28: rows", x.count(0), 3);
        due("28: villages", x.count(1), 2);
        due("28: days", x.count(2), 2);
        due("28: wells", x.count(3), 0);
        due("28: acts", x.count(4), 3);
        due("28: lacked", x.count(5), 2 + 1 + 12 + 31);
        due("28: tape", x.count(6), 3);
        due("28: below", x.count(-1), BAD);
        due("28: above", x.count(7), BAD);
        due("28: far", x.count(LOW), BAD);
    }

    private static void promise29() {
        NightWells x = told("law 0 50; village proud 10 0 12; village proud 30 0 31;");
        due("29: none yet", x.status(), 0);
        x.set(0, 0, 0);
        due("29: NULL", x.status(), 1);
        x.set(8, 0, 0);
        x.row(0, 0, 99);
        x.copy(9, 9, 9, 9, 9);
        x.drop(-1);
        x.drew(9, 0);
        x.as(9, 0);
        due("29: BAD stays", x.status(), 1);
        x.day(0);
        x.count(9);
        x.ask(0, 0);
        x.plain();
        due("29: others stay", x.status(), 1);
        x.row(0, 0, -1);
        due("29: SIZE", x.status(), 4);
        x.row(0, 0, 1);
        due("29: row", x.status(), 0);
        x.set(0, 1, 0);
        due("29: PLACE", x.status(), 2);
        x.set(0, 0, 0);
        due("29: set", x.status(), 0);
        x.row(1, 1, 2);
        x.copy(0, 0, 1, 0, 0);
        due("29: STORE", x.status(), 5);
        x.copy(0, 0, 0, 0, 1);
        due("29: copy", x.status(), 0);
        x.drop(5);
        due("29: NULL of drop", x.status(), 1);
        x.drew(1, 0);
        due("29: drew", x.status(), 0);
        x.drew(0, 0);
        due("29: PLACE of drew", x.status(), 2);
        x.drop(0);
        due("29: drop", x.status(), 0);
        x.drew(0, 0);
        due("29: NULL of drew", x.status(), 1);
        x.as(0, 3);
        due("29: as", x.status(), 0);
        x.as(0, 4);
        due("29: KIND", x.status(), 3);
        NightWells y = new NightWells();
        y.set(0, 0, 0);
        due("29: STATE", y.drew(0, 0), STATE);
        due("29: STATE stays", y.status(), 1);
    }

    public static void main(String[] args) {
        promise1();
        promise2();
        promise3();
        promise4();
        promise5();
        promise6();
        promise7();
        promise8();
        promise9();
        promise10();
        promise11();
        promise12();
        promise13();
        promise14();
        promise15();
        promise16();
        promise17();
        promise18();
        promise19();
        promise20();
        promise21();
        promise22();
        promise23();
        promise24();
        promise25();
        promise26();
        promise27();
        promise28();
        promise29();
        end("all promises hold");
    }
}
