/** One method for each promise, its answers worked out by hand from the document. */
public final class PromisesTest {
    /**
     * A line 0-1-2-3-4-5, with 6 and 7 alone. Rider 0 (r) wants 5 and says 0 from 3: he is at 3, 4, 4, 3, 2, 1, 0, 0, ..;
     * rider 1 (p) wants 2 and says 6 from 1: 1, 2, 2, ..; rider 2 (m) is at 7 and both wants and says it.
     */
    private static final String LINE = "r01;r12;r23;r34;r45;hr0503;hp4261;hm9777;";
    private static final int LEAST = Integer.MIN_VALUE;
    private static final int GREATEST = Integer.MAX_VALUE;
    private static final long LONG_1 = 4000000000000000001L;
    private static final long LONG_2 = 4000000000000000002L;
    private static final long LONG_4 = 4000000000000000004L;
    private static final long LONG_6 = 4000000000000000006L;

    private static final Check C = new Check();

    public static void main(String[] args) {
        newObject();
        letter();
        county();
        countyFaultsOfLetters();
        countyFaultsOfStatements();
        rider();
        kinds();
        steps();
        pulls();
        roads();
        shod();
        wants();
        stands();
        turn();
        days();
        wornOut();
        riderThen();
        comes();
        first();
        rests();
        meet();
        arrived();
        shoe();
        wish();
        road();
        cut();
        inn();
        busiest();
        near();
        apart();
        tired();
        truly();
        total();
        bare();
        two();
        mud();
        mean();
        whatWanted();
        row();
        judge();
        clear();
        lots();
        image();
        on();
        count();
        readmeExample();
        C.end();
    }

    private static ShodForTheRoad told(String text) {
        ShodForTheRoad x = new ShodForTheRoad();
        C.holds("county of " + text, Tell.to(x, text) > 0);
        return x;
    }

    private static ShodForTheRoad line() {
        return told(LINE);
    }

    private static void newObject() {
        ShodForTheRoad x = new ShodForTheRoad();
        for (int what = 0; what <= 7; what++) {
            C.due("1 count(" + what + ")", x.count(what), 0);
        }
        for (int what = 11; what <= 16; what++) {
            C.due("1 count(" + what + ")", x.count(what), 0);
        }
        C.due("1 rider(0, 0)", x.rider(0, 0), -1);
        C.due("1 steps(0, 1)", x.steps(0, 1), 9);
    }

    private static void letter() {
        ShodForTheRoad x = new ShodForTheRoad();
        C.due("2 letter(-1)", x.letter(-1), -4);
        C.due("2 letter(least)", x.letter(LEAST), -4);
        C.due("2 letter(256)", x.letter(256), -6);
        C.due("2 letter(greatest)", x.letter(GREATEST), -6);
        C.due("2 letter(0)", x.letter(0), 1);
        C.due("2 letter(255)", x.letter(255), 2);
        for (int i = 3; i <= 96; i++) {
            C.due("2 letter " + i, x.letter('r'), i);
        }
        C.due("2 letter 97", x.letter('r'), -6);
        C.due("2 letter(-1) when full", x.letter(-1), -4);
        C.due("2 letters", x.count(7), 96);
        C.due("2 refused below", x.count(14), 3);
        C.due("2 refused for room", x.count(16), 3);
    }

    private static void county() {
        ShodForTheRoad x = new ShodForTheRoad();
        C.due("3 line", Tell.to(x, LINE), 8);
        C.due("3 letters gone", x.count(7), 0);
        C.due("3 roads", x.count(2), 5);
        C.due("3 riders", x.count(0), 3);
        C.due("3 more comes on top", Tell.to(x, "w03;a04;s0;r01;r10;d01;"), 6);
        C.due("3 wants", x.rider(0, 2), 3);
        C.due("3 at, a day on", x.rider(0, 4), 3);
        C.due("3 shoes", x.rider(0, 5), 3);
        C.due("3 a road told twice is as before", x.count(2), 5);
        C.due("3 day", x.count(1), 1);
        C.due("3 a road told again is none", Tell.to(x, "r10;"), 1);
        C.due("3 roads less one", x.count(2), 4);
        C.due("3 steps", x.steps(0, 1), 9);
        C.due("3 a day for one told behind it", Tell.to(x, "d02;hr0000;"), 2);
        C.due("3 he has not worn", x.rider(3, 6), 0);
        C.due("3 but others have", x.rider(2, 6), 3);
        C.due("3 shod anew in the text", Tell.to(x, "s2;d60;d60;s1;"), 4);
        C.due("3 worn at most", x.rider(2, 6), 99);
        C.due("3 worn of one shod", x.rider(1, 6), 0);
        String full = "r01;".repeat(24);
        C.due("3 of 96 letters", Tell.to(x, full), 24);
    }

    private static void letterFault(String text, int place) {
        ShodForTheRoad x = line();
        C.due("3 '" + text + "'", Tell.to(x, text), -1000 - place);
        nothingCame(x, text);
    }

    private static void statementFault(String text, int place) {
        ShodForTheRoad x = line();
        C.due("3 '" + text + "'", Tell.to(x, text), -2000 - place);
        nothingCame(x, text);
    }

    private static void nothingCame(ShodForTheRoad x, String text) {
        C.due("3 letters behind '" + text + "'", x.count(7), 0);
        C.due("3 riders behind '" + text + "'", x.count(0), 3);
        C.due("3 roads behind '" + text + "'", x.count(2), 5);
        C.due("3 day behind '" + text + "'", x.count(1), 0);
        C.due("3 at behind '" + text + "'", x.rider(0, 4), 3);
        for (int what = 11; what <= 16; what++) {
            C.due("3 refused behind '" + text + "'", x.count(what), 0);
        }
    }

    private static void countyFaultsOfLetters() {
        letterFault("", 0);
        letterFault(";", 0);
        letterFault("q", 0);
        letterFault("R01;", 0);
        letterFault("r", 1);
        letterFault("r0", 2);
        letterFault("r01", 3);
        letterFault("rr", 1);
        letterFault("r0;", 2);
        letterFault("r012;", 3);
        letterFault("r01;;", 4);
        letterFault("r01; ", 4);
        letterFault("r01;x", 4);
        letterFault("h", 1);
        letterFault("h0", 1);
        letterFault("hq", 1);
        letterFault("hr123;", 5);
        letterFault("hr12345;", 6);
        letterFault("s;", 1);
        letterFault("s00;", 2);
        letterFault("w0;", 2);
        letterFault("a0;", 2);
        letterFault("d1;", 2);
        letterFault("d011;", 3);
        letterFault("d0/;", 2);
        letterFault("d0:;", 2);
        letterFault("d01;a04;r06;z", 12);
        letterFault("r00;q", 4);
        letterFault("d00;r0", 6);
        letterFault("\u00ff", 0);
    }

    private static void countyFaultsOfStatements() {
        statementFault("r00;", 0);
        statementFault("r77;", 0);
        statementFault("r08;", 0);
        statementFault("r90;", 0);
        statementFault("r06;r08;", 4);
        statementFault("hr0800;", 0);
        statementFault("hr0080;", 0);
        statementFault("hr0008;", 0);
        statementFault("s3;", 0);
        statementFault("s9;", 0);
        statementFault("hr0000;s3;s4;", 10);
        statementFault("s3;hr0000;", 0);
        statementFault("w30;", 0);
        statementFault("w08;", 0);
        statementFault("a30;", 0);
        statementFault("a08;", 0);
        statementFault("a04;a09;", 4);
        statementFault("d00;", 0);
        statementFault("d61;", 0);
        statementFault("d99;", 0);
        statementFault("d01;d00;", 4);
        statementFault("d60;".repeat(16) + "d40;", 64);
        statementFault("hr0000;".repeat(4), 21);
        statementFault("r08;r00;", 0);
        ShodForTheRoad x = line();
        C.due("3 to the last day", Tell.to(x, "d60;".repeat(16) + "d39;"), 17);
        C.due("3 day", x.count(1), 999);
        C.due("3 behind the last day", Tell.to(x, "r01;d01;"), -2004);
        C.due("3 six riders", Tell.to(x, "hr0000;hb1111;hu2222;"), 3);
        C.due("3 a seventh", Tell.to(x, "hr0000;"), -2000);
    }

    private static void rider() {
        ShodForTheRoad x = line();
        int[][] due = {{0, 0, 5, 0, 3, 4, 0, 1}, {4, 4, 2, 6, 1, 2, 0, 4}, {3, 9, 7, 7, 7, 0, 0, 0}};
        for (int one = 0; one < 3; one++) {
            for (int what = 0; what < 8; what++) {
                C.due("4 rider(" + one + ", " + what + ")", x.rider(one, what), due[one][what]);
            }
        }
        C.due("4 rider(-1, 0)", x.rider(-1, 0), -1);
        C.due("4 rider(3, 0)", x.rider(3, 0), -1);
        C.due("4 rider(6, 9)", x.rider(6, 9), -1);
        C.due("4 rider(greatest, 0)", x.rider(GREATEST, 0), -1);
        C.due("4 rider(least, 0)", x.rider(LEAST, 0), -1);
        C.due("4 rider(0, 8)", x.rider(0, 8), -2);
        C.due("4 rider(0, -1)", x.rider(0, -1), -2);
        C.due("4 refused", 10 * x.count(11) + x.count(12), 52);
    }

    private static void kinds() {
        int[] shoes = {4, 1, 3, 0, 2, 3};
        int[][] days = {{1, 1, 1, 0, 2, 2}, {2, 2, 2, 0, 4, 3}, {3, 3, 2, 0, 6, 3}, {4, 4, 3, 0, 8, 4}};
        for (int kind = 0; kind < 6; kind++) {
            for (int figure = 0; figure <= 9; figure++) {
                ShodForTheRoad x = told("h" + "rbumpx".charAt(kind) + figure + "010;");
                C.due("4 kind", x.rider(0, 0), kind);
                C.due("4 figure", x.rider(0, 1), figure);
                C.due("4 shoes of kind " + kind, x.rider(0, 5), shoes[kind]);
                C.due("4 days of kind " + kind + ", " + figure, x.rider(0, 7), days[figure / 3][kind]);
            }
        }
    }

    private static void steps() {
        ShodForTheRoad x = line();
        C.due("5 steps(0, 5)", x.steps(0, 5), 5);
        C.due("5 steps(5, 0)", x.steps(5, 0), 5);
        C.due("5 steps(4, 4)", x.steps(4, 4), 0);
        C.due("5 steps(7, 7)", x.steps(7, 7), 0);
        C.due("5 steps(0, 6)", x.steps(0, 6), 9);
        x.roads(0, 5);
        C.due("5 steps(0, 4) about", x.steps(0, 4), 2);
        C.due("5 steps(8, 0)", x.steps(8, 0), -1);
        C.due("5 steps(0, 8)", x.steps(0, 8), -1);
        C.due("5 steps(-1, 0)", x.steps(-1, 0), -1);
        C.due("5 steps(0, least)", x.steps(0, LEAST), -1);
        ShodForTheRoad all = told("r01;r12;r23;r34;r45;r56;r67;");
        C.due("5 the longest way", all.steps(7, 0), 7);
    }

    private static void pulls() {
        ShodForTheRoad x = line();
        C.due("6 pulls(0, 3)", x.pulls(0, 3), 8);
        C.due("6 pulls(0, 0)", x.pulls(0, 0), 20);
        C.due("6 pulls(0, 6)", x.pulls(0, 6), 36);
        C.due("6 pulls(1, 1)", x.pulls(1, 1), 20);
        C.due("6 pulls(1, 6)", x.pulls(1, 6), 18);
        x.days(1);
        C.due("6 pulls(0, 4) a day on", x.pulls(0, 4), 7);
        C.due("6 pulls(3, 0)", x.pulls(3, 0), -1);
        C.due("6 pulls(0, 8)", x.pulls(0, 8), -1);
        C.due("6 pulls(-1, 0)", x.pulls(-1, 0), -1);
        C.due("6 pulls(0, -1)", x.pulls(0, -1), -1);
    }

    private static void roads() {
        ShodForTheRoad x = line();
        C.due("7 roads(6, 7)", x.roads(6, 7), 1);
        C.due("7 near both ways", x.near(7), 64);
        C.due("7 roads(7, 6)", x.roads(7, 6), 0);
        C.due("7 near", x.near(6), 0);
        C.due("7 roads(0, 1)", x.roads(0, 1), 0);
        C.due("7 count", x.count(2), 4);
        C.due("7 roads(3, 3)", x.roads(3, 3), -1);
        C.due("7 roads(8, 0)", x.roads(8, 0), -1);
        C.due("7 roads(0, -1)", x.roads(0, -1), -1);
        C.due("7 count", x.count(2), 4);
    }

    private static void shod() {
        ShodForTheRoad x = line();
        x.days(3);
        C.due("8 shoes", x.rider(0, 5), 1);
        C.due("8 shod(0)", x.shod(0), 4);
        C.due("8 worn", x.rider(0, 6), 0);
        C.due("8 shoes", x.rider(0, 5), 4);
        x.turn(0, 2, 0);
        C.due("8 shod of what he is now", x.shod(0), 3);
        C.due("8 shod(2)", x.shod(2), 0);
        C.due("8 shod(3)", x.shod(3), -1);
        C.due("8 shod(-1)", x.shod(-1), -1);
    }

    private static void wants() {
        ShodForTheRoad x = line();
        C.due("9 wants(0, 2)", x.wants(0, 2), 5);
        C.due("9 wants(0, 7)", x.wants(0, 7), 2);
        C.due("9 he wants", x.rider(0, 2), 7);
        C.due("9 wants(0, 8)", x.wants(0, 8), -1);
        C.due("9 wants(3, 0)", x.wants(3, 0), -1);
        C.due("9 he wants", x.rider(0, 2), 7);
    }

    private static void stands() {
        ShodForTheRoad x = line();
        C.due("10 stands(0, 7)", x.stands(0, 7), 3);
        C.due("10 stands(0, 0)", x.stands(0, 0), 7);
        C.due("10 he is", x.rider(0, 4), 0);
        C.due("10 stands(0, -1)", x.stands(0, -1), -1);
        C.due("10 stands(-1, 0)", x.stands(-1, 0), -1);
        C.due("10 he is", x.rider(0, 4), 0);
    }

    private static void turn() {
        ShodForTheRoad x = line();
        x.days(1);
        C.due("11 turn(1, 5, 9)", x.turn(1, 5, 9), 44);
        C.due("11 turn(1, 0, 0)", x.turn(1, 0, 0), 59);
        C.due("11 shoes stay", x.rider(1, 5), 2);
        C.due("11 worn stays", x.rider(1, 6), 1);
        C.due("11 days", x.rider(1, 7), 1);
        C.due("11 turn(3, 9, 99)", x.turn(3, 9, 99), -1);
        C.due("11 turn(0, 6, -1)", x.turn(0, 6, -1), -2);
        C.due("11 turn(0, -1, 10)", x.turn(0, -1, 10), -2);
        C.due("11 turn(0, 0, -1)", x.turn(0, 0, -1), -4);
        C.due("11 turn(0, 0, 10)", x.turn(0, 0, 10), -6);
        C.due("11 nothing changed", x.rider(0, 7), 1);
    }

    private static void days() {
        ShodForTheRoad x = line();
        C.due("12 days(1)", x.days(1), 1);
        int[] at = {4, 4, 3, 2, 1, 0, 0};
        for (int day = 0; day < 7; day++) {
            C.due("12 at on day " + (day + 1), x.rider(0, 4), at[day]);
            C.due("12 days(1)", x.days(1), day >= 4 ? 2 : 1);
        }
        C.due("12 day", x.count(1), 8);
        C.due("12 worn", x.rider(1, 6), 8);
        C.due("12 shoes", x.rider(1, 5), 0);
        C.due("12 days(0)", x.days(0), -4);
        C.due("12 days(least)", x.days(LEAST), -4);
        C.due("12 days(61)", x.days(61), -6);
        C.due("12 days(greatest)", x.days(GREATEST), -6);
        for (int i = 0; i < 16; i++) {
            C.due("12 days(60)", x.days(60), 2);
        }
        C.due("12 days(32)", x.days(32), -6);
        C.due("12 days(31)", x.days(31), 2);
        C.due("12 days(1) behind the last", x.days(1), -6);
        C.due("12 days(0) behind the last", x.days(0), -4);
        C.due("12 day", x.count(1), 999);
        x.stands(0, 3);
        C.due("12 in thought it goes on", x.comes(0, 0), 3);
        ties();
    }

    private static void ties() {
        ShodForTheRoad x = told("r71;r72;r73;r14;r24;r34;hm0047;");
        x.days(1);
        C.due("12 of several the least", x.rider(0, 4), 1);
        ShodForTheRoad y = told("r01;hp0010;");
        y.days(1);
        C.due("12 he stays where it pulls no less", y.rider(0, 4), 0);
        y.days(1);
        C.due("12 and goes when it does", y.rider(0, 4), 1);
    }

    private static void wornOut() {
        ShodForTheRoad x = told("hr9050;");
        x.turn(0, 3, 0);
        x.days(60);
        C.due("12 worn", x.rider(0, 6), 60);
        x.days(60);
        C.due("12 worn at most", x.rider(0, 6), 99);
        C.due("12 never worn down", x.rider(0, 5), 4);
        C.due("28 truly never", x.truly(0), -9);
        x.turn(0, 0, 0);
        C.due("13 1 divides 99", x.riderThen(0, 3, 1), 1);
        x.turn(0, 0, 3);
        C.due("13 2 does not", x.riderThen(0, 60, 1), 4);
        C.due("28 truly never", x.truly(0), -9);
        x.turn(0, 0, 6);
        C.due("28 3 does", x.truly(0), 4);
    }

    private static void riderThen() {
        ShodForTheRoad x = line();
        int[] at = {3, 4, 4, 3, 2, 1, 0, 0};
        int[] shoes = {4, 3, 2, 1, 0, 0, 0, 0};
        for (int n = 0; n < 8; n++) {
            C.due("13 riderThen(0, " + n + ", 0)", x.riderThen(0, n, 0), at[n]);
            C.due("13 riderThen(0, " + n + ", 1)", x.riderThen(0, n, 1), shoes[n]);
        }
        C.due("13 riderThen(1, 3, 1)", x.riderThen(1, 3, 1), 2);
        C.due("13 riderThen(1, 4, 1)", x.riderThen(1, 4, 1), 1);
        C.due("13 riderThen(1, 60, 1)", x.riderThen(1, 60, 1), 0);
        C.due("13 riderThen(1, 60, 0)", x.riderThen(1, 60, 0), 2);
        C.due("13 nothing changes", x.count(1), 0);
        C.due("13 riderThen(3, -1, 2)", x.riderThen(3, -1, 2), -1);
        C.due("13 riderThen(0, -1, 2)", x.riderThen(0, -1, 2), -4);
        C.due("13 riderThen(0, 61, 2)", x.riderThen(0, 61, 2), -6);
        C.due("13 riderThen(0, 60, 2)", x.riderThen(0, 60, 2), -2);
        C.due("13 riderThen(0, 0, -1)", x.riderThen(0, 0, -1), -2);
    }

    private static void comes() {
        ShodForTheRoad x = line();
        int[] due = {6, 5, 4, 0, 1, -9, -9, -9};
        for (int place = 0; place < 8; place++) {
            C.due("14 comes(0, " + place + ")", x.comes(0, place), due[place]);
        }
        C.due("14 comes(0, 8)", x.comes(0, 8), -1);
        C.due("14 comes(3, 0)", x.comes(3, 0), -1);
        C.due("14 comes(-1, -1)", x.comes(-1, -1), -1);
        C.due("14 he has not gone", x.rider(0, 4), 3);
        ShodForTheRoad late = told("r01;hp9010;");
        late.turn(0, 4, 9);
        C.due("14 first when a shoe goes", late.comes(0, 1), 8);
    }

    private static void first() {
        ShodForTheRoad x = line();
        int[] due = {0, 1, 1, 0, 0, -9, -9, 2};
        for (int place = 0; place < 8; place++) {
            C.due("15 first(" + place + ")", x.first(place), due[place]);
        }
        x.stands(1, 3);
        C.due("15 of several the least", x.first(3), 0);
        C.due("15 first(8)", x.first(8), -1);
        C.due("15 first(-1)", x.first(-1), -1);
        C.due("15 of nobody", new ShodForTheRoad().first(0), -9);
    }

    private static void rests() {
        ShodForTheRoad x = line();
        C.due("16 rests(0)", x.rests(0), 6);
        C.due("16 rests(1)", x.rests(1), 1);
        C.due("16 rests(2)", x.rests(2), 0);
        C.due("16 rests(3)", x.rests(3), -1);
        C.due("16 rests(-1)", x.rests(-1), -1);
        ShodForTheRoad p = told("r01;r12;hp6010;");
        C.due("16 six days to a shoe: he stays five", p.rests(0), 0);
        ShodForTheRoad q = told("r01;hp6010;");
        q.days(1);
        C.due("16 five days to a shoe: he goes on the fifth", q.rests(0), 5);
    }

    private static void meet() {
        ShodForTheRoad x = line();
        C.due("17 meet(0, 1, 0)", x.meet(0, 1, 0), 4);
        C.due("17 meet(1, 0, 1)", x.meet(1, 0, 1), 2);
        C.due("17 meet(0, 2, 0)", x.meet(0, 2, 0), -9);
        C.due("17 meet(0, 2, 1)", x.meet(0, 2, 1), -9);
        x.stands(1, 3);
        C.due("17 meet at once", x.meet(0, 1, 0), 0);
        C.due("17 there", x.meet(0, 1, 1), 3);
        C.due("17 meet(0, 0, 2)", x.meet(0, 0, 2), -1);
        C.due("17 meet(0, 3, 0)", x.meet(0, 3, 0), -1);
        C.due("17 meet(3, 0, 0)", x.meet(3, 0, 0), -1);
        C.due("17 meet(0, 1, 2)", x.meet(0, 1, 2), -2);
        C.due("17 meet(0, 1, -1)", x.meet(0, 1, -1), -2);
    }

    private static void arrived() {
        ShodForTheRoad x = line();
        C.due("18 one never", x.arrived(), -9);
        x.roads(2, 6);
        C.due("18 all", x.arrived(), 6);
        x.days(6);
        C.due("18 at once", x.arrived(), 0);
        C.due("18 of nobody", new ShodForTheRoad().arrived(), 0);
        // Rider 0 is where he says on day 0 and again from day 3, rider 1 from day 1 on: together on day 3 first.
        ShodForTheRoad y = told("r01;r12;r23;hr0300;hm0112;");
        C.due("18 rider 0 goes away", y.riderThen(0, 1, 0), 1);
        C.due("18 rider 1 comes", y.comes(1, 1), 1);
        C.due("18 and back", y.riderThen(0, 3, 0), 0);
        C.due("18 together", y.arrived(), 3);
    }

    private static void shoe() {
        ShodForTheRoad x = line();
        C.due("19 shoe(0, 0, 0)", x.shoe(0, 0, 0), 0);
        C.due("19 shoe(0, 0, 1)", x.shoe(0, 0, 1), 3);
        C.due("19 shoe(0, 5, 0)", x.shoe(0, 5, 0), -9);
        C.due("19 shoe(0, 5, 1)", x.shoe(0, 5, 1), -9);
        C.due("19 shoe(0, 4, 0)", x.shoe(0, 4, 0), 4);
        C.due("19 shoe(0, 4, 1)", x.shoe(0, 4, 1), 1);
        C.due("19 at once, with the least", x.shoe(0, 3, 0), 0);
        C.due("19 at once", x.shoe(0, 3, 1), 0);
        C.due("19 shoe(2, 7, 0)", x.shoe(2, 7, 0), 0);
        C.due("19 he keeps his own", x.rider(0, 5), 4);
        C.due("19 shoe(0, 8, 2)", x.shoe(0, 8, 2), -1);
        C.due("19 shoe(3, 0, 0)", x.shoe(3, 0, 0), -1);
        C.due("19 shoe(0, 0, 2)", x.shoe(0, 0, 2), -2);
        C.due("19 shoe(0, 0, -1)", x.shoe(0, 0, -1), -2);
    }

    private static void wish() {
        ShodForTheRoad x = line();
        C.due("20 wish(0, 0)", x.wish(0, 0), 0);
        C.due("20 not sooner than at once", x.wish(0, 3), -9);
        C.due("20 not sooner than now", x.wish(0, 4), -9);
        C.due("20 nothing helps", x.wish(0, 5), -9);
        x.turn(0, 3, 0);
        x.wants(0, 3);
        C.due("20 of several the least: 4, not 5", x.wish(0, 4), 4);
        C.due("20 he wants what he did", x.rider(0, 2), 3);
        C.due("20 wish(3, 0)", x.wish(3, 0), -1);
        C.due("20 wish(0, 8)", x.wish(0, 8), -1);
    }

    private static void road() {
        ShodForTheRoad x = line();
        C.due("21 road(0, 5)", x.road(0, 5), 35);
        C.due("21 not sooner than at once", x.road(0, 3), -9);
        C.due("21 not sooner than now", x.road(0, 4), -9);
        C.due("21 road(0, 7)", x.road(0, 7), -9);
        C.due("21 no road more", x.count(2), 5);
        C.due("21 steps as they were", x.steps(3, 5), 2);
        ShodForTheRoad y = told("r01;r02;r13;r23;r34;hm0040;");
        C.due("21 the lesser first", y.road(0, 4), 4);
        C.due("21 road(3, 0)", x.road(3, 0), -1);
        C.due("21 road(0, 8)", x.road(0, 8), -1);
    }

    private static void cut() {
        ShodForTheRoad x = line();
        C.due("22 cut(0, 0)", x.cut(0, 0), 1);
        C.due("22 cut(0, 4)", x.cut(0, 4), 34);
        C.due("22 he is there", x.cut(0, 3), -9);
        C.due("22 he never is there", x.cut(0, 5), -9);
        C.due("22 cut(1, 2)", x.cut(1, 2), 12);
        C.due("22 no road less", x.count(2), 5);
        ShodForTheRoad ring = told("r01;r12;r23;r30;hm0020;");
        C.due("22 another way round", ring.cut(0, 2), -9);
        C.due("22 cut(3, 0)", x.cut(3, 0), -1);
        C.due("22 cut(0, 8)", x.cut(0, 8), -1);
    }

    private static void inn() {
        ShodForTheRoad x = line();
        int[] where = {1, 1, 1, 1, 2, 1, 1};
        int[] many = {1, 1, 1, 1, 2, 2, 2};
        for (int n = 0; n < 7; n++) {
            C.due("23 inn(" + n + ", 0)", x.inn(n, 0), where[n]);
            C.due("23 inn(" + n + ", 1)", x.inn(n, 1), many[n]);
        }
        C.due("23 inn(30, 1)", x.inn(30, 1), 2);
        C.due("23 inn(-1, 2)", x.inn(-1, 2), -4);
        C.due("23 inn(31, 2)", x.inn(31, 2), -6);
        C.due("23 inn(30, 2)", x.inn(30, 2), -2);
        C.due("23 inn(0, -1)", x.inn(0, -1), -2);
        C.due("23 of nobody", new ShodForTheRoad().inn(30, 0), 0);
        C.due("23 nobody", new ShodForTheRoad().inn(30, 1), 0);
    }

    private static void busiest() {
        ShodForTheRoad x = new ShodForTheRoad();
        C.due("24 of no roads", x.busiest(), 0);
        C.due("24 the line", line().busiest(), 1);
        x.roads(6, 7);
        C.due("24 of several the least", x.busiest(), 6);
        x.roads(7, 1);
        C.due("24 the last", x.busiest(), 7);
    }

    private static void near() {
        ShodForTheRoad x = line();
        C.due("25 near(0)", x.near(0), 2);
        C.due("25 near(2)", x.near(2), 10);
        C.due("25 near(7)", x.near(7), 0);
        C.due("25 near(8)", x.near(8), -1);
        C.due("25 near(-1)", x.near(-1), -1);
    }

    private static void apart() {
        ShodForTheRoad x = line();
        C.due("26 apart(0)", x.apart(0), 5);
        C.due("26 apart(1)", x.apart(1), 192);
        C.due("26 apart(2)", x.apart(2), 4);
        C.due("26 apart(3)", x.apart(3), 2);
        x.roads(6, 7);
        x.wants(0, 0);
        x.stands(1, 7);
        C.due("26 far still", x.apart(1), 192);
        C.due("26 honest", x.apart(2), 5);
        C.due("26 not lost", x.apart(3), 0);
        C.due("26 apart(4)", x.apart(4), -2);
        C.due("26 apart(-1)", x.apart(-1), -2);
        C.due("26 of nobody", new ShodForTheRoad().apart(2), 0);
    }

    private static void tired() {
        ShodForTheRoad x = line();
        C.due("27 of several the least", x.tired(), 0);
        x.days(2);
        x.shod(0);
        C.due("27 of those left the least", x.tired(), 1);
        x.shod(1);
        C.due("27 the last", x.tired(), 2);
        C.due("27 of nobody", new ShodForTheRoad().tired(), -9);
    }

    private static void truly() {
        ShodForTheRoad x = line();
        C.due("28 truly(0)", x.truly(0), 4);
        C.due("28 truly(1)", x.truly(1), 8);
        C.due("28 truly(2)", x.truly(2), 0);
        x.days(1);
        C.due("28 a day on", x.truly(1), 7);
        C.due("28 truly(3)", x.truly(3), -1);
        C.due("28 truly(-1)", x.truly(-1), -1);
        ShodForTheRoad y = told("hr9010;");
        C.due("28 four days a shoe", y.truly(0), 16);
    }

    private static void total() {
        ShodForTheRoad x = line();
        C.due("29 total(0)", x.total(0), 12);
        C.due("29 total(1)", x.total(1), 13);
        C.due("29 total(6)", x.total(6), 9);
        C.due("29 total(60)", x.total(60), 9);
        C.due("29 total(-1)", x.total(-1), -4);
        C.due("29 total(61)", x.total(61), -6);
        C.due("29 of nobody", new ShodForTheRoad().total(60), 0);
    }

    private static void bare() {
        ShodForTheRoad x = line();
        C.due("30 bare(0)", x.bare(0), -9);
        C.due("30 bare(1)", x.bare(1), 0);
        C.due("30 bare(3)", x.bare(3), 0);
        C.due("30 bare(6)", x.bare(6), -9);
        C.due("30 he keeps his shoes", x.rider(0, 5), 4);
        C.due("30 bare(-1)", x.bare(-1), -4);
        C.due("30 bare(31)", x.bare(31), -6);
        ShodForTheRoad y = told("r01;r12;r23;hm0111;hr0312;hr0301;");
        C.due("30 the one who wins most", y.bare(2), 1);
        C.due("30 of nobody", new ShodForTheRoad().bare(30), -9);
    }

    private static void two() {
        ShodForTheRoad x = line();
        x.turn(0, 3, 0);
        C.due("31 now it is not worth it", x.two(0, 1, 0), 0);
        C.due("31 two(0, 1, 1)", x.two(0, 1, 1), 10);
        C.due("31 two(1, 0, 3)", x.two(1, 0, 3), 1);
        C.due("31 two(0, 2, 3)", x.two(0, 2, 3), 10);
        x.wants(0, 3);
        C.due("31 as good: not", x.two(0, 1, 1), 0);
        C.due("31 better", x.two(0, 1, 2), 10);
        C.due("31 nobody is shod", x.rider(0, 5), 4);
        C.due("31 two(0, 0, -1)", x.two(0, 0, -1), -1);
        C.due("31 two(0, 3, 0)", x.two(0, 3, 0), -1);
        C.due("31 two(3, 0, 0)", x.two(3, 0, 0), -1);
        C.due("31 two(0, 1, -1)", x.two(0, 1, -1), -4);
        C.due("31 two(0, 1, 31)", x.two(0, 1, 31), -6);
        Tell.to(x, "hr0503;");
        x.turn(3, 3, 0);
        C.due("31 both", x.two(0, 3, 3), 11);
    }

    private static void mudIs(ShodForTheRoad x, int place, int n, int t, long above, long below) {
        String call = "32 mud(0, " + place + ", " + n + ", " + t + ", ";
        C.due(call + "0)", x.mud(0, place, n, t, 0), above);
        C.due(call + "1)", x.mud(0, place, n, t, 1), below);
    }

    private static void mud() {
        ShodForTheRoad x = line();
        mudIs(x, 3, 0, 2, 1, 1);
        mudIs(x, 4, 0, 20, 0, 1);
        mudIs(x, 4, 1, 4, 3, 4);
        mudIs(x, 3, 1, 4, 1, 4);
        mudIs(x, 4, 2, 2, 1, 2);
        mudIs(x, 3, 3, 3, 5, 9);
        mudIs(x, 2, 3, 3, 2, 9);
        mudIs(x, 4, 3, 3, 2, 9);
        mudIs(x, 7, 7, 20, 0, 1);
        ShodForTheRoad y = told("r01;hm0010;");
        mudIs(y, 0, 7, 20, 1, 1280000000L);
        mudIs(y, 1, 7, 20, 1279999999L, 1280000000L);
        C.due("32 mud(3, ..)", x.mud(3, 0, -1, 1, 2), LONG_1);
        C.due("32 mud(0, 8, ..)", x.mud(0, 8, -1, 1, 2), LONG_1);
        C.due("32 n below", x.mud(0, 0, -1, 21, 2), LONG_4);
        C.due("32 t below", x.mud(0, 0, 8, 1, 2), LONG_4);
        C.due("32 t nought", x.mud(0, 0, 0, 0, 0), LONG_4);
        C.due("32 n above", x.mud(0, 0, 8, 2, 2), LONG_6);
        C.due("32 t above", x.mud(0, 0, 7, 21, 2), LONG_6);
        C.due("32 part", x.mud(0, 0, 7, 20, 2), LONG_2);
        C.due("32 part below", x.mud(0, 0, 7, 20, -1), LONG_2);
        C.due("32 refused are counted", x.count(11) + 10 * x.count(12) + 100 * x.count(14) + 1000 * x.count(16), 2322);
    }

    private static void mean() {
        ShodForTheRoad x = line();
        C.due("33 mean(0)", x.mean(0), 2);
        C.due("33 mean(1)", x.mean(1), 1);
        x.days(1);
        C.due("33 5 by 3", 10 * x.mean(0) + x.mean(1), 53);
        Tell.to(x, "hr0000;hu0000;hm0000;");
        C.due("33 12 by 6", 10 * x.mean(0) + x.mean(1), 21);
        C.due("33 mean(2)", x.mean(2), LONG_2);
        C.due("33 mean(-1)", x.mean(-1), LONG_2);
        C.due("33 refused", x.count(12), 2);
        ShodForTheRoad mare = told("hm0000;hm0000;");
        C.due("33 0 by 1", 10 * mare.mean(0) + mare.mean(1), 1);
        ShodForTheRoad nobody = new ShodForTheRoad();
        C.due("33 of nobody", 10 * nobody.mean(0) + nobody.mean(1), 1);
    }

    private static void whatWanted() {
        ShodForTheRoad x = line();
        C.due("34 no row", x.whatWanted(0, 0), 255);
        C.due("34 no row", x.whatWanted(0, 1), 63);
        Tell.row(x, 3);
        C.due("34 where he is", x.whatWanted(0, 0), 255);
        Tell.row(x, 3, 4, 4, 3, 2, 1, 0);
        C.due("34 places", x.whatWanted(0, 0), 48);
        C.due("34 kinds", x.whatWanted(0, 1), 7);
        C.due("34 the row stays", x.count(6), 7);
        C.due("34 not the other", x.whatWanted(1, 0), 0);
        Tell.row(x, 3, 4, 5);
        C.due("34 kinds that wear less", x.whatWanted(0, 1), 56);
        C.due("34 no place", x.whatWanted(0, 0), 0);
        Tell.row(x, 99);
        C.due("34 no such place", x.whatWanted(0, 0), 0);
        C.due("34 nothing changed", x.rider(0, 0) + x.rider(0, 2), 5);
        C.due("34 whatWanted(3, 2)", x.whatWanted(3, 2), -1);
        C.due("34 whatWanted(0, 2)", x.whatWanted(0, 2), -2);
        C.due("34 whatWanted(0, -1)", x.whatWanted(0, -1), -2);
    }

    private static void row() {
        ShodForTheRoad x = new ShodForTheRoad();
        C.due("35 row(-1)", x.row(-1), -4);
        C.due("35 row(100)", x.row(100), -6);
        for (int i = 1; i <= 16; i++) {
            C.due("35 row", x.row(i == 1 ? 0 : 99), i);
        }
        C.due("35 row when full", x.row(0), -6);
        C.due("35 row(-1) when full", x.row(-1), -4);
        C.due("35 in the row", x.count(6), 16);
    }

    private static void judged(int due, int... numbers) {
        ShodForTheRoad x = line();
        Tell.row(x, numbers);
        C.due("36 judge of " + java.util.Arrays.toString(numbers), x.judge(), due);
        C.due("36 the row has none", x.count(6), 0);
        C.due("36 judge of none", x.judge(), -9);
    }

    private static void judge() {
        judged(-9);
        judged(-9, 3);
        judged(-9, 3, 1, 7);
        judged(3, 3, 1, 7, 0);
        judged(1, 3, 2, 7);
        judged(0, 4, 2, 6);
        judged(3, 3, 1, 7, 0, 0, 0, 0, 0, 0, 0, 0, 0, 0, 0, 0, 0);
    }

    private static void clear() {
        ShodForTheRoad x = new ShodForTheRoad();
        C.due("37 clear()", x.clear(), 0);
        Tell.row(x, 1, 2, 3);
        C.due("37 clear()", x.clear(), 3);
        C.due("37 clear()", x.clear(), 0);
        C.due("37 in the row", x.count(6), 0);
        C.due("37 from the first again", x.row(5), 1);
    }

    private static void lots() {
        ShodForTheRoad five = told("hr0150;");
        C.due("38 he is lotted to 5", five.lots(1, 7, 1), 1);
        C.due("38 no steps", five.lots(1, 7, 0), 0);
        C.due("38 5 of -1 too", five.lots(1, -1, 1), 1);
        ShodForTheRoad six = told("hr0160;");
        C.due("38 not to 6", six.lots(1, 7, 0), 9);
        C.due("38 the sign's bit is left out", six.lots(1, 1000, 1), 1);
        C.due("38 he is where he was", six.rider(0, 4), 0);
        C.due("38 of nobody", new ShodForTheRoad().lots(20, 5, 0), 0);
        C.due("38 lots(0, 0, 2)", six.lots(0, 0, 2), -4);
        C.due("38 lots(21, 0, 2)", six.lots(21, 0, 2), -6);
        C.due("38 lots(20, 0, 2)", six.lots(20, 0, 2), -2);
        C.due("38 lots(1, 0, -1)", six.lots(1, 0, -1), -2);
    }

    private static void image() {
        ShodForTheRoad x = line();
        x.days(5);
        C.due("39 image()", x.image(), 5);
        x.days(1);
        C.due("39 image() anew", x.image(), 6);
        C.due("39 nothing changes", x.count(1), 6);
        C.due("39 on from the new one", x.on(), 6);
    }

    private static void on() {
        ShodForTheRoad x = line();
        C.due("40 on() of none", x.on(), -3);
        x.days(1);
        x.image();
        x.days(9);
        x.roads(6, 7);
        x.wants(0, 1);
        x.stands(1, 7);
        x.turn(2, 0, 0);
        Tell.to(x, "hr0000;");
        x.row(1);
        x.letter('r');
        x.rider(9, 0);
        C.due("40 on()", x.on(), 1);
        C.due("40 riders", x.count(0), 3);
        C.due("40 roads", x.count(2), 5);
        C.due("40 steps", x.steps(6, 7), 9);
        C.due("40 at", x.rider(0, 4), 4);
        C.due("40 wants", x.rider(0, 2), 5);
        C.due("40 shoes", x.rider(0, 5), 3);
        C.due("40 worn", x.rider(1, 6), 1);
        C.due("40 at", x.rider(1, 4), 2);
        C.due("40 kind", x.rider(2, 0), 3);
        C.due("40 the row is as now", x.count(6), 1);
        C.due("40 letters are as now", x.count(7), 1);
        C.due("40 refusals are as now", x.count(11), 1);
        C.due("40 refusals are as now", x.count(13), 1);
        x.days(7);
        C.due("40 on() again", x.on(), 1);
        C.due("40 as then", x.rider(0, 4), 4);
    }

    private static void count() {
        ShodForTheRoad x = line();
        x.days(2);
        x.row(4);
        x.letter('r');
        int[] due = {3, 2, 5, 4, 4, 6, 1, 1};
        for (int what = 0; what < 8; what++) {
            C.due("41 count(" + what + ")", x.count(what), due[what]);
        }
        x.days(4);
        C.due("41 who is there", x.count(3), 5);
        x.rider(9, 9);
        x.rider(0, 9);
        x.rider(0, 9);
        x.on();
        x.days(0);
        x.total(61);
        int[] refused = {1, 2, 1, 1, 0, 1};
        for (int i = 0; i < 6; i++) {
            C.due("41 count(" + (11 + i) + ")", x.count(11 + i), refused[i]);
        }
        for (int what : new int[] {LEAST, -1, 8, 9, 10, 17, GREATEST}) {
            C.due("41 count(" + what + ")", x.count(what), -9);
        }
    }

    /** What README.md shows; by hand: 2, 3, 3, 2, 1, 0. */
    private static void readmeExample() {
        ShodForTheRoad x = new ShodForTheRoad();
        C.due("README county()", Tell.to(x, "r01;r12;r23;hr0302;"), 4);
        C.due("README comes(0, 0)", x.comes(0, 0), 5);
        C.due("README days(3)", x.days(3), 0);
        C.due("README rider(0, 4)", x.rider(0, 4), 2);
    }
}
