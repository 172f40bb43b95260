/** The boundary cases of promises 1 to 3: a new object, letters, and what becomes of them. */
public final class EdgesTellingTest {
    private static final String[] STATEMENTS = {"r07;", "hx9777;", "s0;", "w07;", "a07;", "d60;"};
    private static final String AHEAD = "r12;";
    private static final String[] SIX = {"hr0000;", "hb1111;", "hu2222;", "hm3333;", "hp4444;", "hx5555;"};
    private static final String TO_DAY_960 = "d60;".repeat(16);
    private static final Check C = new Check();

    public static void main(String[] args) {
        aNewObject();
        newObjectsShareNothing();
        letterAtItsLimits();
        ninetySixLetters();
        lettersBehindACounty();
        noStatement();
        lettersThatDoNotFit();
        textsThatEndTooSoon();
        textsOfNinetySixLetters();
        letterFaultsGoFirst();
        placesOutOfRange();
        placesOfRidersOutOfRange();
        figuresOfAllDigits();
        ridersWhoAreNotThere();
        ridersToldInTheText();
        daysOutOfRange();
        daysToTheLast();
        daysBeyondTheLast();
        sixRiders();
        moreThanSixRiders();
        aRoadToldAgain();
        theFirstOfSeveralFaults();
        withAFaultNothingComes();
        aFaultIsNoRefusal();
        C.end();
    }

    private static void fault(ShodForTheRoad x, String text, int due) {
        String seen = Seen.of(x);
        C.due("3 '" + text + "'", Tell.to(x, text), due);
        C.holds("3 '" + text + "' changes nothing", Seen.of(x).equals(seen));
    }

    /** The same on an object of its own, for an object's answers are promised for 512 calls alone. */
    private static void faultBehind(String ahead, String text, int due) {
        fault(ahead.isEmpty() ? new ShodForTheRoad() : Tell.anew(ahead), text, due);
    }

    private static void aNewObject() {
        ShodForTheRoad x = new ShodForTheRoad();
        for (int place = 0; place < 8; place++) {
            C.due("1 no roads at " + place, x.near(place), 0);
            for (int other = 0; other < 8; other++) {
                C.due("1 no way", x.steps(place, other), place == other ? 0 : 9);
            }
        }
        for (int what = 0; what <= 7; what++) {
            C.due("1 count(" + what + ")", x.count(what), 0);
        }
        C.holds("1 no refusals", Seen.refusals(x).equals("refusals 0 0 0 0 0 0"));
        C.due("1 no rider 0", x.rider(0, 0), -1);
        C.due("1 no image", x.on(), -3);
    }

    private static void newObjectsShareNothing() {
        ShodForTheRoad x = new ShodForTheRoad();
        ShodForTheRoad other = Tell.anew("r01;hr0123;d05;");
        other.image();
        other.row(1);
        other.letter('r');
        other.rider(9, 9);
        ShodForTheRoad later = new ShodForTheRoad();
        for (ShodForTheRoad each : new ShodForTheRoad[] {x, later}) {
            C.holds("1 as new", Seen.of(each).equals("counts 0 0 0 0 0 0 0 0 near 0 0 0 0 0 0 0 0"));
            C.due("1 no refusals of another's", each.count(11), 0);
            C.due("1 no image of another's", each.on(), -3);
        }
    }

    private static void letterAtItsLimits() {
        ShodForTheRoad x = new ShodForTheRoad();
        C.due("2 the least letter", x.letter(0), 1);
        C.due("2 the greatest letter", x.letter(255), 2);
        C.due("2 below the least", x.letter(-1), -4);
        C.due("2 above the greatest", x.letter(256), -6);
        C.due("2 far below", x.letter(Integer.MIN_VALUE), -4);
        C.due("2 far above", x.letter(Integer.MAX_VALUE), -6);
        C.due("2 two letters", x.count(7), 2);
        // 0 and 255 are letters, but of no county; 256 less would be the letter 0.
        C.due("3 of letter 0", x.county(), -1000);
    }

    private static void ninetySixLetters() {
        ShodForTheRoad x = new ShodForTheRoad();
        String text = "r67;".repeat(23) + "r01;";
        for (int i = 0; i < 96; i++) {
            C.due("2 letter " + i, x.letter(text.charAt(i)), i + 1);
        }
        C.due("2 the 97th", x.letter('r'), -6);
        C.due("2 the 97th, below the least", x.letter(-1), -4);
        C.due("2 the 97th, above the greatest", x.letter(256), -6);
        C.due("2 96 stay", x.count(7), 96);
        C.due("3 the 96 become a county", x.county(), 24);
        C.due("3 the last statement came", x.near(0), 2);
        C.due("3 23 times told", x.near(6), 128);
    }

    private static void lettersBehindACounty() {
        ShodForTheRoad x = new ShodForTheRoad();
        Tell.to(x, "r01;".repeat(24));
        C.due("3 letters are no more", x.count(7), 0);
        C.due("2 the first again", x.letter('q'), 1);
        C.due("3 a fault", x.county(), -1000);
        C.due("3 letters are no more with a fault", x.count(7), 0);
        C.due("2 the first again", x.letter('r'), 1);
        C.due("3 no letter of those before", x.county(), -1001);
        for (int i = 1; i <= 96; i++) {
            C.due("2 room for 96 again", x.letter('r'), i);
        }
    }

    private static void noStatement() {
        faultBehind("", "", -1000);
        ShodForTheRoad x = Tell.anew("r01;hr0000;");
        fault(x, "", -1000);
        fault(x, ";", -1000);
    }

    private static boolean fits(String statement, int place, char sign) {
        if (place == 0) {
            return "rhswad".indexOf(sign) >= 0;
        }
        if (place == statement.length() - 1) {
            return sign == ';';
        }
        if (place == 1 && statement.charAt(0) == 'h') {
            return "rbumpx".indexOf(sign) >= 0;
        }
        return sign >= '0' && sign <= '9';
    }

    private static void lettersThatDoNotFit() {
        for (String statement : STATEMENTS) {
            for (int place = 0; place < statement.length(); place++) {
                for (char sign = 0; sign <= 255; sign++) {
                    if (!fits(statement, place, sign)) {
                        String text = statement.substring(0, place) + sign;
                        // What comes behind the wrong letter says nothing of where it is.
                        faultBehind("hr0000;", text, -1000 - place);
                        faultBehind("hr0000;", text + statement, -1000 - place);
                        faultBehind("hr0000;", AHEAD + text + ";", -1004 - place);
                    }
                }
            }
        }
    }

    private static void textsThatEndTooSoon() {
        for (String statement : STATEMENTS) {
            for (int length = 1; length < statement.length(); length++) {
                String text = statement.substring(0, length);
                faultBehind("hr0000;", text, -1000 - length);
                faultBehind("hr0000;", AHEAD + text, -1004 - length);
            }
            C.due("3 nothing lacks in " + statement, Tell.to(Tell.anew("hr0000;"), statement), 1);
        }
    }

    private static void textsOfNinetySixLetters() {
        String ahead = "r01;".repeat(23);
        faultBehind("", ahead + "hr00", -1096);
        faultBehind("", ahead + "s0;r", -1096);
        faultBehind("", ahead + "r01q", -1095);
        faultBehind("", ahead + "r00;", -2092);
        // The 97th letter is refused, so the end is where the 96 end.
        ShodForTheRoad x = new ShodForTheRoad();
        fault(x, ahead + "hr0000;", -1096);
        C.due("3 it was refused", x.count(16), 3);
        C.due("3 96 letters", Tell.to(x, ahead + "r01;"), 24);
    }

    private static void letterFaultsGoFirst() {
        faultBehind("hr0000;", "r00;q", -1004);
        faultBehind("hr0000;", "r00;r0", -1006);
        faultBehind("hr0000;", "s9;d00;w09;;", -1011);
        faultBehind("hr0000;", "d99;" + "hr0000;".repeat(6) + "x", -1046);
        faultBehind("hr0000;", "r00", -1003);
        faultBehind("hr0000;", "r88:", -1003);
    }

    private static void placesOutOfRange() {
        for (int a = 0; a <= 9; a++) {
            for (int b = 0; b <= 9; b++) {
                ShodForTheRoad x = new ShodForTheRoad();
                String text = "r" + a + b + ";";
                if (a <= 7 && b <= 7 && a != b) {
                    C.due("3 " + text, Tell.to(x, text), 1);
                    C.due("3 the road of " + text, x.near(a), 1 << b);
                    C.due("3 back by the road of " + text, x.near(b), 1 << a);
                } else {
                    fault(x, text, -2000);
                }
            }
        }
    }

    private static void placesOfRidersOutOfRange() {
        for (int place = 0; place <= 9; place++) {
            for (int which = 0; which < 3; which++) {
                ShodForTheRoad x = Tell.anew("hr0123;");
                StringBuilder text = new StringBuilder("hr0444;");
                text.setCharAt(3 + which, (char) ('0' + place));
                due(x, text.toString(), place <= 7);
                C.due("3 the place of " + text, x.rider(1, 2 + which), place <= 7 ? place : -1);
            }
            ShodForTheRoad y = Tell.anew("hr0123;");
            due(y, "w0" + place + ";", place <= 7);
            C.due("3 he wants", y.rider(0, 2), place <= 7 ? place : 1);
            due(y, "a0" + place + ";", place <= 7);
            C.due("3 he is", y.rider(0, 4), place <= 7 ? place : 3);
        }
    }

    private static void due(ShodForTheRoad x, String text, boolean comes) {
        if (comes) {
            C.due("3 " + text, Tell.to(x, text), 1);
        } else {
            fault(x, text, -2000);
        }
    }

    private static void figuresOfAllDigits() {
        for (int figure = 0; figure <= 9; figure++) {
            ShodForTheRoad x = Tell.anew("hr" + figure + "000;");
            C.due("3 figure " + figure, x.rider(0, 1), figure);
        }
    }

    private static void ridersWhoAreNotThere() {
        for (int riders = 0; riders <= 6; riders++) {
            for (int rider = 0; rider <= 9; rider++) {
                ShodForTheRoad x = new ShodForTheRoad();
                for (int i = 0; i < riders; i++) {
                    Tell.to(x, SIX[i]);
                }
                due(x, "s" + rider + ";", rider < riders);
                due(x, "w" + rider + "6;", rider < riders);
                due(x, "a" + rider + "7;", rider < riders);
                C.due("3 he wants", x.rider(rider, 2), rider < riders ? 6 : -1);
                C.due("3 he is", x.rider(rider, 4), rider < riders ? 7 : -1);
            }
        }
    }

    private static void ridersToldInTheText() {
        for (String told : new String[] {"s0;", "w07;", "a07;"}) {
            C.due("3 told ahead of " + told, Tell.to(new ShodForTheRoad(), "hr0000;" + told), 2);
            faultBehind("", told + "hr0000;", -2000);
        }
        faultBehind("", "hr0000;s1;hr0000;", -2007);
        // What a text with a fault told is not there for the next.
        ShodForTheRoad x = new ShodForTheRoad();
        fault(x, "hr0000;r00;", -2007);
        fault(x, "s0;", -2000);
    }

    private static void daysOutOfRange() {
        for (int days = 0; days <= 99; days++) {
            ShodForTheRoad x = Tell.anew("hm0000;");
            String text = "d" + days / 10 + days % 10 + ";";
            boolean comes = days >= 1 && days <= 60;
            due(x, text, comes);
            C.due("3 DAY behind " + text, x.count(1), comes ? days : 0);
            C.due("3 WORN behind " + text, x.rider(0, 6), comes ? days : 0);
        }
    }

    private static void daysToTheLast() {
        ShodForTheRoad x = new ShodForTheRoad();
        C.due("3 to the last day", Tell.to(x, TO_DAY_960 + "d39;"), 17);
        C.due("3 DAY", x.count(1), 999);
        fault(x, "d01;", -2000);
        C.due("3 all else still comes", Tell.to(x, "r01;hr0100;s0;w01;a01;"), 5);
        fault(x, "r01;d01;", -2004);
        C.due("12 nor by days", x.days(1), -6);
    }

    private static void daysBeyondTheLast() {
        faultBehind("", TO_DAY_960 + "d40;", -2064);
        faultBehind("", TO_DAY_960 + "d60;", -2064);
        faultBehind("", TO_DAY_960 + "d39;d01;", -2068);
        faultBehind("", TO_DAY_960 + "d40;d39;", -2064);
        ShodForTheRoad x = Tell.anew(TO_DAY_960);
        fault(x, "d20;d20;", -2004);
        C.due("3 each by itself would do", Tell.to(x, "d20;"), 1);
        C.due("3 and one more", Tell.to(x, "d19;"), 1);
    }

    private static void sixRiders() {
        ShodForTheRoad x = new ShodForTheRoad();
        C.due("3 six in one text", Tell.to(x, String.join("", SIX)), 6);
        for (int i = 0; i < 6; i++) {
            C.due("3 kind of " + i, x.rider(i, 0), i);
            C.due("3 he is", x.rider(i, 4), i);
        }
        C.due("3 no seventh", x.rider(6, 0), -1);
        ShodForTheRoad y = Tell.anew(SIX);
        C.holds("3 in six texts the same", Seen.of(y).equals(Seen.of(x)));
    }

    private static void moreThanSixRiders() {
        faultBehind("", "hr0000;".repeat(7), -2042);
        String six = String.join("", SIX);
        faultBehind(six, "hr0000;", -2000);
        faultBehind(six, "r01;hr0000;", -2004);
        // No room, and a place out of range besides: it is one fault at one place.
        ShodForTheRoad x = Tell.anew(SIX);
        fault(x, "hr0999;", -2000);
        C.due("3 all else still comes", Tell.to(x, "s5;w57;a57;d01;r01;"), 5);
        ShodForTheRoad five = Tell.anew(SIX[0], SIX[1], SIX[2], SIX[3], SIX[4]);
        fault(five, "hr0000;hr0000;", -2007);
        C.due("3 one has room", Tell.to(five, "hr0000;"), 1);
    }

    private static void aRoadToldAgain() {
        ShodForTheRoad x = new ShodForTheRoad();
        C.due("3 a road", Tell.to(x, "r07;"), 1);
        C.due("3 told again from the other end", Tell.to(x, "r70;"), 1);
        C.due("3 none", x.count(2), 0);
        C.due("3 three times in one text", Tell.to(x, "r07;r70;r07;"), 3);
        C.due("3 one", x.count(2), 1);
    }

    private static void theFirstOfSeveralFaults() {
        faultBehind("hr0000;", "r01;r22;s5;d00;", -2004);
        faultBehind("hr0000;", "d61;r22;", -2000);
        faultBehind("hr0000;", "w00;s1;a00;s1;", -2004);
        faultBehind("hr0000;", "q;z", -1000);
        faultBehind("hr0000;", "r0q;s", -1002);
    }

    private static void withAFaultNothingComes() {
        ShodForTheRoad x = Tell.anew("r01;r12;hr0202;hu9110;d01;");
        x.image();
        Tell.row(x, 1, 2, 3);
        String all = "r01;r67;hx1234;s0;w07;a06;s1;w15;a14;d60;";
        fault(x, all + "r00;", -2041);
        fault(x, all + "r0", -1043);
        fault(x, all + "q", -1041);
        C.due("3 the row is as it was", x.count(6), 3);
        C.due("3 without the fault all comes", Tell.to(x, all), 10);
        C.due("3 DAY", x.count(1), 61);
        C.due("3 riders", x.count(0), 3);
        C.due("40 the image is as it was", x.on(), 1);
    }

    private static void aFaultIsNoRefusal() {
        ShodForTheRoad x = new ShodForTheRoad();
        for (String text : new String[] {"", "q", "r00;", "s0;", "d00;", "d61;", "hr0009;", "hr0000;".repeat(7)}) {
            C.holds("3 a fault", Tell.to(x, text) <= -1000);
        }
        C.holds("3 nothing is counted", Seen.refusals(x).equals("refusals 0 0 0 0 0 0"));
    }
}
