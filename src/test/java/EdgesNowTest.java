/** The boundary cases of promises 4 to 12, 24 to 27, 33, 35 to 37 and 39 to 41: what is now, and what is kept. */
public final class EdgesNowTest {
    private static final String LONG_LINE = "r01;r12;r23;r34;r45;r56;r67;";
    private static final String SIX = "hr0503;hp4261;hm9777;hb0123;hu9012;hx5670;";
    private static final String TO_DAY_999 = "d60;".repeat(16) + "d39;";
    private static final int[] SHOES = {4, 1, 3, 0, 2, 3};
    private static final Check C = new Check();

    public static void main(String[] args) {
        riderOfSix();
        daysForAShoeAtEachFigure();
        stepsAtTheirEnds();
        pullsAtTheirEnds();
        allRoadsAndNone();
        shodOfEachKind();
        wantsAndStandsAtTheirEnds();
        turnAtItsEnds();
        turnLeavesShoes();
        daysAtTheirLimits();
        sixtyAtOnce();
        theLastDay();
        beyondTheLastDay();
        howManyAreThere();
        wornAtItsMost();
        ironAtTheMostWorn();
        shoesNeverBelowNone();
        ironBeforeTheRide();
        ridesOfEqualPull();
        ridesWithoutRoads();
        busiestAtItsEnds();
        nearAtItsEnds();
        apartAtItsEnds();
        farAtItsEnds();
        honestAndLostAtTheirEnds();
        tiredAtItsEnds();
        meanAtItsEnds();
        rowAtItsLimits();
        rowOfSixteen();
        judgeAtItsEnds();
        clearAtItsEnds();
        imageAtItsEnds();
        onWithoutImage();
        onAgainAndAgain();
        onGivesRoomAgain();
        onLeavesTheRest();
        countAtItsEnds();
        countOfRefusals();
        fiveHundredAndTwelveCalls();
        C.end();
    }

    private static void riderOfSix() {
        ShodForTheRoad x = Tell.anew(SIX);
        int[] last = {5, 5, 6, 7, 0, 3, 0, 3};
        for (int what = 0; what <= 7; what++) {
            C.due("4 of the last rider " + what, x.rider(5, what), last[what]);
        }
        C.due("4 the first what of the first", x.rider(0, 0), 0);
        C.due("4 a seventh", x.rider(6, 0), -1);
        C.due("4 an eighth what", x.rider(5, 8), -2);
        C.due("4 nobody goes ahead of what", x.rider(6, 8), -1);
    }

    private static void daysForAShoeAtEachFigure() {
        // Thirds of the figure are cut: it changes at 3, 6 and 9.
        int[][] due = {
            {1, 1, 1, 2, 2, 2, 3, 3, 3, 4},
            {1, 1, 1, 2, 2, 2, 3, 3, 3, 4},
            {1, 1, 1, 2, 2, 2, 2, 2, 2, 3},
            {0, 0, 0, 0, 0, 0, 0, 0, 0, 0},
            {2, 2, 2, 4, 4, 4, 6, 6, 6, 8},
            {2, 2, 2, 3, 3, 3, 3, 3, 3, 4}};
        for (int kind = 0; kind <= 5; kind++) {
            for (int figure = 0; figure <= 9; figure++) {
                ShodForTheRoad told = Tell.anew("h" + "rbumpx".charAt(kind) + figure + "000;");
                C.due("4 days of " + kind + ", " + figure, told.rider(0, 7), due[kind][figure]);
                C.due("4 shoes of " + kind, told.rider(0, 5), SHOES[kind]);
                ShodForTheRoad turned = Tell.anew("hr0000;");
                turned.turn(0, kind, figure);
                C.due("11 days of " + kind + ", " + figure, turned.rider(0, 7), due[kind][figure]);
            }
        }
    }

    private static void stepsAtTheirEnds() {
        ShodForTheRoad x = Tell.anew(LONG_LINE);
        for (int place = 0; place < 8; place++) {
            C.due("5 to itself", x.steps(place, place), 0);
            C.due("5 along the line", x.steps(0, place), place);
            C.due("5 along the line back", x.steps(place, 7), 7 - place);
        }
        x.roads(3, 4);
        C.due("5 no way", x.steps(0, 7), 9);
        C.due("5 no way back", x.steps(7, 0), 9);
        C.due("5 the end of what is left", x.steps(0, 3), 3);
        C.due("5 to itself still", x.steps(4, 4), 0);
        C.due("5 one", Tell.allRoads().steps(7, 0), 1);
    }

    private static void pullsAtTheirEnds() {
        ShodForTheRoad all = Tell.anew("hr0010;");
        C.due("6 the least, four shoes for what he wants", all.pulls(0, 0), 0);
        C.due("6 no way to it", all.pulls(0, 1), 36);
        C.due("6 the most", all.pulls(0, 7), 36);
        ShodForTheRoad half = Tell.anew("hp0010;");
        C.due("6 two and two, no way to one", half.pulls(0, 0), 18);
        C.due("6 nor to the other", half.pulls(0, 1), 18);
        C.due("6 to neither", half.pulls(0, 7), 36);
        ShodForTheRoad none = Tell.anew("hm0010;");
        C.due("6 four shoes for what he says", none.pulls(0, 0), 36);
        C.due("6 the least", none.pulls(0, 1), 0);
        ShodForTheRoad line = Tell.anew(LONG_LINE + "hb0700;");
        C.due("6 by the longest way and none", line.pulls(0, 0), 7);
        C.due("6 by none and the longest way", line.pulls(0, 7), 21);
        ShodForTheRoad same = Tell.anew("hb0777;");
        C.due("6 both the same place", same.pulls(0, 7), 0);
    }

    private static void allRoadsAndNone() {
        ShodForTheRoad x = new ShodForTheRoad();
        int many = 0;
        for (int a = 0; a < 8; a++) {
            for (int b = a + 1; b < 8; b++) {
                many++;
                C.due("7 a road", x.roads(b, a), 1);
                C.due("41 roads", x.count(2), many);
            }
        }
        C.due("7 28 at most", many, 28);
        for (int a = 0; a < 8; a++) {
            C.due("7 one place twice", x.roads(a, a), -1);
            for (int b = a + 1; b < 8; b++) {
                many--;
                C.due("7 none", x.roads(a, b), 0);
                C.due("41 roads", x.count(2), many);
            }
        }
        C.due("7 of 8 twice: no such place", x.roads(8, 8), -1);
    }

    private static void shodOfEachKind() {
        for (int kind = 0; kind <= 5; kind++) {
            ShodForTheRoad x = Tell.anew("hm9000;d60;d60;");
            x.turn(0, kind, 0);
            C.due("8 worn at most", x.rider(0, 6), 99);
            C.due("8 shod as kind " + kind, x.shod(0), SHOES[kind]);
            C.due("8 worn", x.rider(0, 6), 0);
            C.due("8 shod again", x.shod(0), SHOES[kind]);
        }
        ShodForTheRoad six = Tell.anew(SIX);
        C.due("8 the last", six.shod(5), 3);
        C.due("8 a seventh", six.shod(6), -1);
    }

    private static void wantsAndStandsAtTheirEnds() {
        ShodForTheRoad x = Tell.anew("hr0305;");
        C.due("9 the last place", x.wants(0, 7), 3);
        C.due("9 the first place", x.wants(0, 0), 7);
        C.due("9 what he wants already", x.wants(0, 0), 0);
        C.due("9 what he says stays", x.rider(0, 3), 0);
        C.due("10 the last place, without a road", x.stands(0, 7), 5);
        C.due("10 the first place", x.stands(0, 0), 7);
        C.due("10 where he is already", x.stands(0, 0), 0);
        C.due("10 no day goes by", x.count(1) + x.rider(0, 6), 0);
    }

    private static void turnAtItsEnds() {
        ShodForTheRoad x = Tell.anew("hr0000;");
        C.due("11 to the last kind and figure", x.turn(0, 5, 9), 0);
        C.due("11 to what he is already", x.turn(0, 5, 9), 59);
        C.due("11 to the first", x.turn(0, 0, 0), 59);
        C.due("11 as he was", x.turn(0, 0, 9), 0);
        C.due("11 figure", x.turn(0, 1, 0), 9);
        C.due("11 kind", x.turn(0, 0, 0), 10);
    }

    private static void turnLeavesShoes() {
        ShodForTheRoad x = Tell.anew("hr0000;d01;");
        for (int kind = 5; kind >= 0; kind--) {
            x.turn(0, kind, 9);
            C.due("11 shoes as they are, as kind " + kind, x.rider(0, 5), 3);
            C.due("11 worn as it is", x.rider(0, 6), 1);
        }
        ShodForTheRoad mare = Tell.anew("hm0000;");
        mare.turn(0, 0, 0);
        C.due("11 none as they are", mare.rider(0, 5), 0);
    }

    private static void daysAtTheirLimits() {
        ShodForTheRoad x = Tell.anew("hm0000;");
        C.due("12 one", x.days(1), 1);
        C.due("12 sixty", x.days(60), 1);
        C.due("12 none", x.days(0), -4);
        C.due("12 sixty-one", x.days(61), -6);
        C.due("12 far below", x.days(Integer.MIN_VALUE), -4);
        C.due("12 so far above that DAY would wrap", x.days(Integer.MAX_VALUE), -6);
        C.due("12 DAY", x.count(1), 61);
        C.due("12 WORN", x.rider(0, 6), 61);
    }

    private static void sixtyAtOnce() {
        ShodForTheRoad once = Tell.anew(LONG_LINE, SIX);
        ShodForTheRoad told = Tell.anew(LONG_LINE, SIX, "d60;");
        ShodForTheRoad slowly = Tell.anew(LONG_LINE, SIX);
        once.days(60);
        for (int i = 0; i < 60; i++) {
            slowly.days(1);
        }
        C.holds("12 sixty days at once or one by one", Seen.of(once).equals(Seen.of(slowly)));
        C.holds("12 sixty days told", Seen.of(once).equals(Seen.of(told)));
    }

    private static void theLastDay() {
        ShodForTheRoad x = new ShodForTheRoad();
        for (int i = 0; i < 15; i++) {
            x.days(60);
        }
        x.days(39);
        C.due("12 DAY 939", x.count(1), 939);
        C.due("12 to the last day by sixty", x.days(60), 0);
        C.due("12 DAY 999", x.count(1), 999);
        C.due("12 no day more", x.days(1), -6);
        C.due("12 below goes first", x.days(0), -4);
        C.due("12 above", x.days(61), -6);
        C.due("12 DAY 999 still", x.count(1), 999);
    }

    private static void beyondTheLastDay() {
        ShodForTheRoad x = Tell.anew("d60;".repeat(15) + "d40;", "r01;r12;hm0020;");
        C.due("12 DAY would be 1000", x.days(60), -6);
        C.due("12 DAY 940", x.count(1), 940);
        C.due("12 nobody rode", x.rider(0, 4), 0);
        C.due("12 nor wore", x.rider(0, 6), 0);
        C.due("12 to 999", x.days(59), 1);
        C.due("12 he rode", x.rider(0, 4), 2);
    }

    private static void howManyAreThere() {
        C.due("12 of nobody", new ShodForTheRoad().days(1), 0);
        C.due("12 none of six", Tell.anew("hm0010;".repeat(6)).days(60), 0);
        C.due("12 all six", Tell.anew("hm0000;".repeat(6)).days(60), 6);
        C.due("41 all six (bits)", Tell.anew("hm0000;".repeat(6)).count(3), 63);
        C.due("12 the last of six", Tell.anew("hm0010;".repeat(5) + "hm0000;").days(1), 1);
    }

    private static void wornAtItsMost() {
        ShodForTheRoad x = Tell.anew("hm0000;d60;d38;");
        C.due("12 98", x.rider(0, 6), 98);
        x.days(1);
        C.due("12 99", x.rider(0, 6), 99);
        x.days(1);
        C.due("12 99 at most", x.rider(0, 6), 99);
        x.days(60);
        C.due("12 99 still", x.rider(0, 6), 99);
        C.due("41 all worn", x.count(5), 99);
        x.shod(0);
        x.days(1);
        C.due("12 from 0 again", x.rider(0, 6), 1);
    }

    /** A rider with four shoes and 97 days, who has been a mare so long. */
    private static ShodForTheRoad wornFor97Days(int kind, int figure) {
        ShodForTheRoad x = Tell.anew("hr0000;");
        x.turn(0, 3, 0);
        x.days(60);
        x.days(37);
        x.turn(0, kind, figure);
        return x;
    }

    private static void ironAtTheMostWorn() {
        // Behind the days to 98, 99, and again 99: 1 and 3 divide 99, whatever day it is; 2 divides 98 alone.
        int[][] due = {{3, 2, 1}, {4, 3, 2}, {3, 3, 3}, {4, 4, 4}, {4, 4, 4}, {4, 4, 4}};
        int[][] turns = {{0, 0}, {0, 6}, {0, 3}, {0, 9}, {4, 9}, {3, 0}};
        for (int i = 0; i < turns.length; i++) {
            ShodForTheRoad x = wornFor97Days(turns[i][0], turns[i][1]);
            for (int day = 0; day < 3; day++) {
                x.days(1);
                C.due("12 shoes of days " + x.rider(0, 7) + " behind " + (98 + day), x.rider(0, 5), due[i][day]);
            }
        }
    }

    private static void shoesNeverBelowNone() {
        ShodForTheRoad x = Tell.anew("hr0010;d03;");
        C.due("12 one left", x.rider(0, 5), 1);
        x.days(1);
        C.due("12 none left", x.rider(0, 5), 0);
        x.days(1);
        C.due("12 none, not less", x.rider(0, 5), 0);
        x.days(60);
        C.due("12 none still", x.rider(0, 5), 0);
        C.due("41 all shoes", x.count(4), 0);
    }

    private static void ironBeforeTheRide() {
        // With three shoes he would go to 2; the third goes on the day itself, and two and two he stays.
        ShodForTheRoad x = Tell.anew("r01;r12;hu0201;d01;");
        C.due("12 the iron is worn before he goes", x.rider(0, 4), 1);
        ShodForTheRoad y = Tell.anew("r01;r12;hu3201;d01;");
        C.due("12 two days to a shoe: he goes", y.rider(0, 4), 2);
    }

    private static void ridesOfEqualPull() {
        ShodForTheRoad x = Tell.anew("r71;r72;r73;r14;r24;r34;hm0047;d01;");
        C.due("12 of several the least", x.rider(0, 4), 1);
        ShodForTheRoad y = Tell.anew("r75;r76;r54;r64;hm0047;d01;");
        C.due("12 the lesser of the last ones", y.rider(0, 4), 5);
        ShodForTheRoad same = Tell.anew("r01;hp9010;d07;");
        C.due("12 no less than where he is: he stays", same.rider(0, 4), 0);
        same.days(1);
        C.due("12 less: he goes", same.rider(0, 4), 1);
    }

    private static void ridesWithoutRoads() {
        ShodForTheRoad x = Tell.anew("r01;hm0710;hr0702;d60;");
        C.due("12 by the only road", x.rider(0, 4), 1);
        C.due("12 without one he stays", x.rider(1, 4), 2);
        ShodForTheRoad y = Tell.anew("r01;r12;hr0700;d01;");
        C.due("12 no way to either: he stays", y.rider(0, 4), 0);
    }

    private static void busiestAtItsEnds() {
        C.due("24 of no roads the least", new ShodForTheRoad().busiest(), 0);
        C.due("24 of all roads the least", Tell.allRoads().busiest(), 0);
        C.due("24 of several the least", Tell.anew("r67;r45;").busiest(), 4);
        C.due("24 the last", Tell.anew("r01;r07;r27;r37;").busiest(), 7);
        for (int place = 0; place < 8; place++) {
            ShodForTheRoad x = new ShodForTheRoad();
            x.roads(place, (place + 1) % 8);
            x.roads(place, (place + 5) % 8);
            C.due("24 two roads at " + place, x.busiest(), place);
        }
    }

    private static void nearAtItsEnds() {
        ShodForTheRoad all = Tell.allRoads();
        C.due("25 all but itself", all.near(0), 254);
        C.due("25 all but itself", all.near(7), 127);
        C.due("25 none", new ShodForTheRoad().near(7), 0);
        C.due("25 an eighth", all.near(8), -1);
        C.due("25 below", all.near(-1), -1);
    }

    private static void apartAtItsEnds() {
        C.due("26 of no roads", new ShodForTheRoad().apart(0), 0);
        C.due("26 the most there can be", Tell.anew(LONG_LINE).apart(0), 7);
        C.due("26 of the last two alone", Tell.anew("r67;").apart(0), 1);
        C.due("26 all near", Tell.allRoads().apart(0), 1);
        C.due("26 the longer of two parts", Tell.anew("r01;r23;r34;r45;").apart(0), 3);
        C.due("26 a ring", Tell.anew(LONG_LINE + "r07;").apart(0), 4);
    }

    private static void farAtItsEnds() {
        C.due("26 all but 0", new ShodForTheRoad().apart(1), 254);
        C.due("26 none", Tell.anew(LONG_LINE).apart(1), 0);
        C.due("26 the last", Tell.anew("r01;r12;r23;r34;r45;r56;").apart(1), 128);
        C.due("26 a part of its own", Tell.anew("r02;r13;r35;r57;").apart(1), 250);
    }

    private static void honestAndLostAtTheirEnds() {
        ShodForTheRoad nobody = new ShodForTheRoad();
        C.due("26 of nobody", nobody.apart(2) + nobody.apart(3), 0);
        ShodForTheRoad six = Tell.anew("hr0771;".repeat(6));
        C.due("26 all honest", six.apart(2), 63);
        C.due("26 all lost", six.apart(3), 63);
        six.roads(1, 7);
        C.due("26 none lost", six.apart(3), 0);
        ShodForTheRoad there = Tell.anew("hr0011;");
        C.due("26 not honest", there.apart(2), 0);
        C.due("26 there without roads is not lost", there.apart(3), 0);
    }

    private static void tiredAtItsEnds() {
        C.due("27 of nobody", new ShodForTheRoad().tired(), -9);
        C.due("27 nobody worn: the least", Tell.anew(SIX).tired(), 0);
        ShodForTheRoad x = Tell.anew("hr0000;hr0000;d60;d39;", "hr0000;d60;d60;");
        C.due("27 all at the most: the least", x.tired(), 0);
        x.shod(0);
        C.due("27 the lesser of two", x.tired(), 1);
        x.shod(1);
        x.days(1);
        C.due("27 the last", x.tired(), 2);
        x.shod(2);
        C.due("27 of several the least", x.tired(), 0);
    }

    private static void meanIs(String text, long above, long below) {
        ShodForTheRoad x = text.isEmpty() ? new ShodForTheRoad() : Tell.anew(text);
        C.due("33 above, of " + text, x.mean(0), above);
        C.due("33 below, of " + text, x.mean(1), below);
    }

    private static void meanAtItsEnds() {
        meanIs("", 0, 1);
        meanIs("hm0000;", 0, 1);
        meanIs("hm0000;".repeat(6), 0, 1);
        meanIs("hr0000;", 4, 1);
        meanIs("hr0000;".repeat(6), 4, 1);
        meanIs("hb0000;" + "hm0000;".repeat(5), 1, 6);
        meanIs("hr0000;" + "hm0000;".repeat(5), 2, 3);
        meanIs("hr0000;".repeat(5) + "hu0000;", 23, 6);
        meanIs("hr0000;hr0000;hm0000;", 8, 3);
    }

    private static void rowAtItsLimits() {
        ShodForTheRoad x = new ShodForTheRoad();
        C.due("35 the least", x.row(0), 1);
        C.due("35 the greatest", x.row(99), 2);
        C.due("35 below", x.row(-1), -4);
        C.due("35 above", x.row(100), -6);
        C.due("35 far below", x.row(Integer.MIN_VALUE), -4);
        C.due("35 far above", x.row(Integer.MAX_VALUE), -6);
        C.due("35 two", x.count(6), 2);
    }

    private static void rowOfSixteen() {
        ShodForTheRoad x = Tell.anew("hm0000;");
        for (int i = 1; i <= 16; i++) {
            C.due("35 number " + i, x.row(0), i);
        }
        C.due("35 a seventeenth", x.row(1), -6);
        C.due("35 a seventeenth, below the least", x.row(-1), -4);
        C.due("35 a seventeenth, above the greatest", x.row(100), -6);
        C.due("35 sixteen stay", x.count(6), 16);
        C.due("34 as they are", x.whatWanted(0, 0), 255);
        C.due("37 sixteen go", x.clear(), 16);
        C.due("35 room again", x.row(7), 1);
    }

    private static void judgeAtItsEnds() {
        ShodForTheRoad x = Tell.anew("hm0700;hm0777;");
        C.due("36 none in the row", x.judge(), -9);
        Tell.row(x, 0);
        C.due("36 fewer than riders", x.judge(), -9);
        C.due("36 none then", x.count(6), 0);
        Tell.row(x, 0, 7);
        C.due("36 as many", x.judge(), -9);
        Tell.row(x, 0, 7, 0);
        C.due("36 nobody there", x.judge(), 2);
        C.due("36 none then", x.count(6), 0);
        Tell.row(x, 1, 6);
        C.due("36 the first", x.judge(), 0);
        Tell.row(x, 0, 99);
        C.due("36 no such place", x.judge(), 1);
        C.due("36 judged again, there is none", x.judge(), -9);
        Tell.row(x, 0, 0);
        C.due("36 not what he says or wants, but where he is", x.judge(), 1);
        judgeOfMany();
    }

    private static void judgeOfMany() {
        ShodForTheRoad six = Tell.anew("hm0000;".repeat(6));
        Tell.row(six, 0, 0, 0, 0, 0, 0);
        C.due("36 all six", six.judge(), -9);
        Tell.row(six, 0, 0, 0, 0, 0, 0, 0, 0, 0, 0, 0, 0, 0, 0, 0, 0);
        C.due("36 there is no seventh", six.judge(), 6);
        ShodForTheRoad nobody = new ShodForTheRoad();
        Tell.row(nobody, 0);
        C.due("36 of nobody", nobody.judge(), 0);
        C.due("36 none then", nobody.count(6), 0);
    }

    private static void clearAtItsEnds() {
        ShodForTheRoad x = new ShodForTheRoad();
        C.due("37 of none", x.clear(), 0);
        x.row(5);
        C.due("37 of one", x.clear(), 1);
        C.due("37 of none again", x.clear(), 0);
        C.due("36 nothing is left to be judged", x.judge(), -9);
    }

    private static void imageAtItsEnds() {
        ShodForTheRoad x = new ShodForTheRoad();
        C.due("39 of nothing", x.image(), 0);
        Tell.to(x, TO_DAY_999);
        Tell.to(x, LONG_LINE);
        Tell.to(x, SIX);
        String full = Seen.of(x);
        C.due("40 on from nothing", x.on(), 0);
        C.holds("40 nothing", Seen.of(x).equals("counts 0 0 0 0 0 0 0 0 near 0 0 0 0 0 0 0 0"));
        Tell.to(x, TO_DAY_999);
        Tell.to(x, LONG_LINE);
        Tell.to(x, SIX);
        C.due("39 of the last day", x.image(), 999);
        C.holds("39 changes nothing", Seen.of(x).equals(full));
    }

    private static void onWithoutImage() {
        ShodForTheRoad x = Tell.anew("hr0123;d05;");
        String seen = Seen.of(x);
        C.due("40 there is none", x.on(), -3);
        C.due("40 there is none still", x.on(), -3);
        C.holds("40 nothing changes", Seen.of(x).equals(seen));
        C.holds("40 it is counted", Seen.refusals(x).equals("refusals 0 0 2 0 0 0"));
        C.due("39 taken", x.image(), 5);
        C.due("40 there is one", x.on(), 5);
    }

    private static void onAgainAndAgain() {
        ShodForTheRoad x = Tell.anew(LONG_LINE + SIX + "d02;");
        x.image();
        String then = Seen.of(x);
        for (int round = 0; round < 2; round++) {
            x.days(60);
            x.roads(0, 7);
            x.turn(0, 5, 9);
            x.wants(1, 0);
            x.stands(2, 0);
            x.shod(3);
            C.due("40 on", x.on(), 2);
            C.holds("40 all is as then", Seen.of(x).equals(then));
        }
        x.days(1);
        C.due("39 taken anew", x.image(), 3);
        x.days(1);
        C.due("40 on from the new one", x.on(), 3);
    }

    private static void onGivesRoomAgain() {
        ShodForTheRoad x = Tell.anew("hr0123;");
        x.image();
        C.due("3 five more", Tell.to(x, "hm0777;".repeat(5)), 5);
        C.due("3 no room", Tell.to(x, "hm0777;"), -2000);
        C.due("40 on", x.on(), 0);
        C.due("40 one rider", x.count(0), 1);
        C.due("40 no second", x.rider(1, 0), -1);
        C.due("3 five others", Tell.to(x, "hb0666;".repeat(5)), 5);
        C.due("3 the second is another", x.rider(1, 0), 1);
        C.due("3 shod", x.rider(1, 5), 1);
        Tell.to(x, TO_DAY_999);
        C.due("40 on from the last day", x.on(), 0);
        C.due("12 days go by again", x.days(60), 0);
    }

    private static void onLeavesTheRest() {
        ShodForTheRoad x = Tell.anew("hr0123;");
        Tell.row(x, 1, 2);
        x.letter('r');
        x.rider(9, 9);
        x.image();
        x.row(3);
        x.letter('0');
        x.rider(9, 9);
        x.rider(0, 9);
        C.due("40 on", x.on(), 0);
        C.due("40 the row is as now", x.count(6), 3);
        C.due("40 letters are as now", x.count(7), 2);
        C.holds("40 refusals are as now", Seen.refusals(x).equals("refusals 2 1 0 0 0 0"));
        C.due("40 the row's first is not so", x.judge(), 0);
        x.letter('7');
        x.letter(';');
        C.due("40 letters go on", x.county(), 1);
        x.clear();
        C.due("40 on", x.on(), 0);
        C.due("40 the row stays empty", x.count(6), 0);
        C.due("40 letters stay gone", x.count(7), 0);
    }

    private static void countAtItsEnds() {
        ShodForTheRoad x = Tell.anew(SIX);
        for (int what : new int[] {Integer.MIN_VALUE, -9, -1, 8, 9, 10, 17, 18, 100, Integer.MAX_VALUE}) {
            C.due("41 count(" + what + ")", x.count(what), -9);
        }
        C.holds("41 another what is no refusal", Seen.refusals(x).equals("refusals 0 0 0 0 0 0"));
        C.due("41 the most riders", x.count(0), 6);
        ShodForTheRoad most = Tell.anew("hr0000;".repeat(6));
        C.due("41 the most shoes", most.count(4), 24);
        most.days(60);
        most.days(60);
        C.due("41 the most worn", most.count(5), 594);
    }

    private static void countOfRefusals() {
        ShodForTheRoad x = Tell.anew("hr0000;");
        int[] due = {5, 4, 3, 2, 0, 1};
        for (int i = 0; i < 5; i++) {
            x.near(8);
        }
        for (int i = 0; i < 3; i++) {
            x.apart(4);
        }
        C.due("33 a refusal of a long", x.mean(2), 4000000000000000002L);
        for (int i = 0; i < 3; i++) {
            x.on();
        }
        x.days(0);
        x.mud(0, 0, 0, 1, 0);
        x.total(61);
        for (int i = 0; i < 6; i++) {
            C.due("41 refusals -" + (i + 1), x.count(11 + i), due[i]);
        }
    }

    private static void fiveHundredAndTwelveCalls() {
        ShodForTheRoad x = new ShodForTheRoad();
        for (int i = 0; i < 511; i++) {
            x.near(-1);
        }
        C.due("41 the 512th call", x.count(11), 511);
        ShodForTheRoad y = new ShodForTheRoad();
        for (int i = 0; i < 511; i++) {
            y.letter('r');
        }
        C.due("41 the 512th call", y.count(16), 415);
    }
}
