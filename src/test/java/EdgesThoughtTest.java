import java.util.ArrayList;
import java.util.List;

/** The boundary cases of promises 13 to 23, 28 to 32, 34 and 38: what is asked in thought. */
public final class EdgesThoughtTest {
    private static final String LONG_LINE = "r01;r12;r23;r34;r45;r56;r67;";
    private static final String SIX = "hr0503;hp4261;hm9777;hb0123;hu9012;hx5670;";
    private static final String TO_DAY_999 = "d60;".repeat(16) + "d39;";
    private static final Check C = new Check();

    public static void main(String[] args) {
        thoughtPassesTheLastDay();
        thoughtChangesNothing();
        thoughtLeavesNothingBehind();
        aFaultIsNotThoughtOf();
        ridersOfAFaultAreNotThoughtOf();
        thenAtItsLimits();
        thenAtTheMostWorn();
        comesAtOnceLastOrNever();
        firstOfNobodyOrSeveral();
        restsForFiveDaysNotFour();
        meetAtOnceOrNever();
        meetNotUnderWay();
        arrivedAtItsEnds();
        shoeAtItsEnds();
        shoeByWhatIsWorn();
        wishAtItsEnds();
        wishNotSooner();
        wishOfSeveral();
        roadAtItsEnds();
        roadNotSooner();
        roadOfSeveral();
        cutAtItsEnds();
        innAtItsLimits();
        innOfNobodyOrSeveral();
        trulyAtItsEnds();
        trulyAtTheMostWorn();
        totalAtItsLimits();
        bareAtItsLimits();
        bareOfSeveral();
        twoAtItsLimits();
        twoOfEqualCost();
        mudOfNoDays();
        mudAtItsLimits();
        mudWearsIron();
        mudInLeastTerms();
        whatWantedOfNoRow();
        whatWantedOfALongRow();
        whatWantedOfNoPlace();
        kindsBySixteenDays();
        lotsOfOneAndTwenty();
        lotsOfAnySeed();
        lotsOfShoes();
        lotsOfTenDays();
        lotsOfNobody();
        C.end();
    }

    /** Every answer in thought, with few enough calls for one object. */
    private static List<Long> thoughts(ShodForTheRoad x) {
        List<Long> said = new ArrayList<>();
        for (int rider = 0; rider < x.count(0); rider += 5) {
            long[] one = {x.riderThen(rider, 60, 0), x.riderThen(rider, 60, 1), x.riderThen(rider, 1, 0),
                x.rests(rider), x.truly(rider), x.meet(rider, 1, 0), x.meet(rider, 1, 1), x.two(rider, 1, 3),
                x.two(rider, 1, 30), x.whatWanted(rider, 0), x.whatWanted(rider, 1)};
            add(said, one);
            for (int place = 0; place < 8; place++) {
                long[] there = {x.comes(rider, place), x.shoe(rider, place, 0), x.shoe(rider, place, 1),
                    x.wish(rider, place), x.road(rider, place), x.cut(rider, place),
                    x.mud(rider, place, 7, 20, 0), x.mud(rider, place, 7, 20, 1)};
                add(said, there);
            }
        }
        long[] all = {x.arrived(), x.first(3), x.first(7), x.inn(30, 0), x.inn(30, 1), x.total(60), x.bare(1),
            x.bare(30), x.lots(20, 7, 0), x.lots(20, 7, 1)};
        add(said, all);
        return said;
    }

    private static void add(List<Long> said, long[] answers) {
        for (long answer : answers) {
            said.add(answer);
        }
    }

    private static void thoughtPassesTheLastDay() {
        ShodForTheRoad early = Tell.anew(LONG_LINE, SIX);
        ShodForTheRoad late = Tell.anew(TO_DAY_999, LONG_LINE, SIX);
        early.row(3);
        late.row(3);
        C.due("13 it is the last day", late.count(1), 999);
        C.holds("13 to 38 in thought DAY may pass 999", thoughts(late).equals(thoughts(early)));
        C.due("13 none is refused", late.count(16), 0);
        C.due("12 but no day goes by", late.days(1), -6);
    }

    private static void thoughtChangesNothing() {
        ShodForTheRoad x = Tell.anew(LONG_LINE, SIX);
        x.row(3);
        String seen = Seen.of(x);
        thoughts(x);
        C.holds("13 to 38 change nothing", Seen.of(x).equals(seen));
    }

    private static void thoughtLeavesNothingBehind() {
        ShodForTheRoad x = new ShodForTheRoad();
        x.image();
        Tell.to(x, LONG_LINE + "hr0107;hr0107;");
        C.due("23 two", x.inn(30, 1), 2);
        C.due("14 one who is thought of", x.comes(1, 6), 1);
        x.on();
        C.due("18 nobody is left", x.arrived(), 0);
        C.due("23 nor anywhere", x.inn(30, 1), 0);
        C.due("29 nor has steps to go", x.total(60), 0);
        C.due("38 nor by lot", x.lots(20, 1, 0), 0);
    }

    private static void aFaultIsNotThoughtOf() {
        String three = LONG_LINE + "hr0503;hp4261;hm9777;";
        ShodForTheRoad x = Tell.anew(three);
        ShodForTheRoad y = Tell.anew(three);
        C.due("3 a fault", Tell.to(x, "r01;r34;r56;r07;hr0000;w07;a00;d60;r00;"), -2035);
        Tell.row(x, 3, 4, 4, 3);
        Tell.row(y, 3, 4, 4, 3);
        C.holds("13 to 38 as if it had not been told", thoughts(x).equals(thoughts(y)));
        for (int place = 0; place < 8; place++) {
            C.due("6 nor does it pull", x.pulls(0, place), y.pulls(0, place));
        }
        for (int what = 0; what <= 3; what++) {
            C.due("26 nor part places", x.apart(what), y.apart(what));
        }
        C.due("33 nor is it in the mean", 10 * x.mean(0) + x.mean(1), 21);
        Tell.row(x, 3, 1, 7, 0);
        C.due("36 nor is a fourth there", x.judge(), 3);
        x.stands(0, 7);
        x.roads(0, 1);
        C.due("14 what calls change is thought of", x.comes(0, 5), 2);
        C.due("14 what calls change is thought of", x.comes(0, 0), -9);
    }

    private static void ridersOfAFaultAreNotThoughtOf() {
        ShodForTheRoad x = Tell.anew(LONG_LINE + "hm0070;");
        C.due("3 a fault", Tell.to(x, "hm0000;hm0077;r00;"), -2014);
        C.due("15 nobody is there before him", x.first(7), 0);
        // With four shoes for good he leaves what he says, and stays at what he wants.
        ShodForTheRoad y = Tell.anew("r01;hr0100;");
        y.turn(0, 3, 0);
        C.due("3 a fault", Tell.to(y, "hm0000;hm0077;r00;"), -2014);
        C.due("18 all of one are there now", y.arrived(), 0);
        C.due("29 steps of one alone", y.total(1), 1);
        ShodForTheRoad z = Tell.anew(LONG_LINE + "hr9070;hr9707;");
        z.turn(0, 3, 0);
        z.turn(1, 3, 0);
        C.due("3 a fault", Tell.to(z, "r01;r67;r00;"), -2008);
        C.due("31 by the roads that there are", z.two(0, 1, 30), 11);
        C.due("31 on the way", z.two(0, 1, 3), 11);
    }

    private static void thenAtItsLimits() {
        ShodForTheRoad x = Tell.anew(LONG_LINE + "hr0703;");
        C.due("13 behind none, where he is", x.riderThen(0, 0, 0), 3);
        C.due("13 behind none, his shoes", x.riderThen(0, 0, 1), 4);
        C.due("13 behind sixty", x.riderThen(0, 60, 0), 0);
        C.due("13 behind sixty, none", x.riderThen(0, 60, 1), 0);
        C.due("13 below", x.riderThen(0, -1, 0), -4);
        C.due("13 above", x.riderThen(0, 61, 0), -6);
        x.days(60);
        C.due("13 as it came", x.rider(0, 4), 0);
    }

    /** A rider of kind and figure with four shoes that he has worn for so many days, at 0, for 7 and saying 0. */
    private static ShodForTheRoad worn(int days, int kind, int figure) {
        ShodForTheRoad x = Tell.anew("hr0700;");
        x.turn(0, 3, 0);
        for (int left = days; left > 0; left -= 60) {
            x.days(Math.min(left, 60));
        }
        x.turn(0, kind, figure);
        return x;
    }

    private static void thenAtTheMostWorn() {
        ShodForTheRoad two = worn(98, 0, 3);
        C.due("13 WORN 98 is now, not behind a day", two.riderThen(0, 60, 1), 4);
        ShodForTheRoad three = worn(98, 0, 6);
        C.due("13 3 divides 99", three.riderThen(0, 1, 1), 3);
        C.due("13 and 99 again", three.riderThen(0, 2, 1), 2);
        C.due("13 until none is left", three.riderThen(0, 60, 1), 0);
        ShodForTheRoad four = worn(99, 0, 9);
        C.due("13 4 does not", four.riderThen(0, 60, 1), 4);
    }

    /** Four shoes for 0, where he is, at eight days each: from day 24 on he goes to 7. */
    private static ShodForTheRoad slowest() {
        ShodForTheRoad x = Tell.anew(LONG_LINE + "hr9070;");
        x.turn(0, 4, 9);
        return x;
    }

    private static void comesAtOnceLastOrNever() {
        // Behind 24 days he has one shoe left or keeps what he has: then he goes where he says, at most 7 steps, or never.
        // So nobody comes later than 30, and no answer can tell a limit of 60 from one of 30.
        ShodForTheRoad x = slowest();
        C.due("14 at once", x.comes(0, 0), 0);
        C.due("14 at the first step", x.comes(0, 1), 24);
        C.due("14 at last", x.comes(0, 7), 30);
        x.turn(0, 3, 9);
        C.due("14 never", x.comes(0, 7), -9);
        x.roads(0, 1);
        x.turn(0, 4, 9);
        C.due("14 without a way", x.comes(0, 7), -9);
        C.due("14 at once still", x.comes(0, 0), 0);
    }

    private static void firstOfNobodyOrSeveral() {
        C.due("15 of nobody", new ShodForTheRoad().first(0), -9);
        ShodForTheRoad x = Tell.anew("r01;r12;hm0000;hm0020;hm0020;hm0022;");
        C.due("15 two at once: the least", x.first(0), 0);
        C.due("15 two on one day: the least", x.first(1), 1);
        C.due("15 one who is there already", x.first(2), 3);
        C.due("15 nobody ever", x.first(7), -9);
        x.stands(3, 7);
        C.due("15 now somebody at the last place", x.first(7), 3);
        C.due("15 the least of those who come", x.first(2), 1);
    }

    private static void restsForFiveDaysNotFour() {
        ShodForTheRoad five = Tell.anew("r01;hp6010;");
        C.due("16 he goes on day 6", five.comes(0, 1), 6);
        C.due("16 he stays for 5 days from now on", five.rests(0), 0);
        five.days(1);
        C.due("16 he goes on day 5", five.comes(0, 1), 5);
        C.due("16 4 days are not enough", five.rests(0), 5);
        ShodForTheRoad still = Tell.anew("hm0010;");
        C.due("16 without roads at once", still.rests(0), 0);
        ShodForTheRoad rides = Tell.anew(LONG_LINE + "hm0070;");
        C.due("16 when he is there", rides.rests(0), 7);
        C.due("16 the slowest stays first", slowest().rests(0), 0);
        ShodForTheRoad soon = slowest();
        soon.days(20);
        C.due("16 and behind 20 days goes in 4", soon.rests(0), 10);
    }

    private static void meetAtOnceOrNever() {
        ShodForTheRoad x = Tell.anew("r01;r12;hm0022;hm0020;hm0077;");
        C.due("17 when", x.meet(0, 1, 0), 2);
        C.due("17 where", x.meet(1, 0, 1), 2);
        C.due("17 never", x.meet(0, 2, 0), -9);
        C.due("17 nowhere", x.meet(0, 2, 1), -9);
        x.stands(1, 7);
        C.due("17 at once", x.meet(2, 1, 0), 0);
        C.due("17 there, the last place", x.meet(1, 2, 1), 7);
        C.due("17 one twice", x.meet(1, 1, 0), -1);
        ShodForTheRoad zero = Tell.anew("hm0000;hm0000;");
        C.due("17 there, the first place", zero.meet(0, 1, 1), 0);
    }

    private static void meetNotUnderWay() {
        ShodForTheRoad x = Tell.anew("r01;hm0010;hm0101;");
        C.due("17 they go past one another", x.riderThen(0, 1, 0) - x.riderThen(1, 1, 0), 1);
        C.due("17 that is no meeting", x.meet(0, 1, 0), -9);
        C.due("17 nor is there a place", x.meet(0, 1, 1), -9);
    }

    private static void arrivedAtItsEnds() {
        C.due("18 of nobody at once", new ShodForTheRoad().arrived(), 0);
        C.due("18 all there at once", Tell.anew("hm0000;".repeat(6)).arrived(), 0);
        C.due("18 one of six never", Tell.anew("hm0000;".repeat(5) + "hm0010;").arrived(), -9);
        C.due("18 the slowest", slowest().arrived(), 30);
        // He is at what he says now, and leaves it at once, and is back only when the other is there.
        ShodForTheRoad x = Tell.anew("r01;r12;r23;hr0300;hm0031;");
        C.due("18 the one comes", x.comes(1, 3), 2);
        C.due("18 the other is back", x.riderThen(0, 3, 0), 0);
        C.due("18 and was not", x.riderThen(0, 2, 0), 1);
        C.due("18 both", x.arrived(), 3);
    }

    private static void shoeAtItsEnds() {
        ShodForTheRoad x = Tell.anew("r01;r12;hr9201;");
        C.due("19 at once with any: the least", x.shoe(0, 1, 0), 0);
        C.due("19 at once", x.shoe(0, 1, 1), 0);
        C.due("19 to what he says with none", x.shoe(0, 0, 0), 0);
        C.due("19 when", x.shoe(0, 0, 1), 1);
        C.due("19 to what he wants, of 3 and 4 the least", x.shoe(0, 2, 0), 3);
        C.due("19 when", x.shoe(0, 2, 1), 1);
        C.due("19 with none at all", x.shoe(0, 7, 0), -9);
        C.due("19 never", x.shoe(0, 7, 1), -9);
        x.stands(0, 7);
        C.due("19 the last place at once", x.shoe(0, 7, 0), 0);
        ShodForTheRoad four = Tell.anew("r01;r12;hr0201;");
        C.due("19 one goes on day 1: with four", four.shoe(0, 2, 0), 4);
    }

    private static void shoeByWhatIsWorn() {
        ShodForTheRoad x = Tell.anew("r01;hr3011;");
        C.due("19 WORN 0", x.shoe(0, 0, 0), 3);
        x.days(1);
        x.stands(0, 1);
        C.due("19 WORN 1 stays", x.shoe(0, 0, 0), 4);
        C.due("19 when", x.shoe(0, 0, 1), 1);
        x.turn(0, 0, 0);
        x.days(60);
        x.stands(0, 1);
        C.due("19 he has none now", x.rider(0, 5), 0);
        C.due("19 with four he would", x.shoe(0, 0, 0), 4);
    }

    private static void wishAtItsEnds() {
        C.due("20 the first place", Tell.anew("r01;hr9111;").wish(0, 0), 0);
        C.due("20 the last place", Tell.anew("r67;hr9666;").wish(0, 7), 7);
        ShodForTheRoad x = Tell.anew("r01;r12;hr9000;");
        C.due("20 of 1 and 2 the least", x.wish(0, 1), 1);
        C.due("20 beyond", x.wish(0, 2), 2);
        x.turn(0, 3, 0);
        C.due("20 with four shoes for good", x.wish(0, 2), 2);
        ShodForTheRoad mare = Tell.anew("r01;hm0000;");
        C.due("20 with none it is all one", mare.wish(0, 1), -9);
    }

    private static void wishNotSooner() {
        ShodForTheRoad x = Tell.anew("r01;r12;hr9201;");
        C.due("20 he is there", x.wish(0, 1), -9);
        C.due("20 he comes as soon as can be", x.wish(0, 2), -9);
        C.due("20 no way", x.wish(0, 7), -9);
        C.due("20 sooner, by wanting what he says", x.wish(0, 0), 0);
        x.wants(0, 0);
        C.due("20 then not sooner", x.wish(0, 0), -9);
    }

    private static void wishOfSeveral() {
        // Two and two he stays; with no way to what he wants only what he says pulls: 0 does as well as 7.
        ShodForTheRoad x = Tell.anew("r71;r12;hp9271;");
        C.due("20 not before a shoe is gone", x.comes(0, 7), 8);
        C.due("20 of several the least, though there is no way to it", x.wish(0, 7), 0);
    }

    private static void roadAtItsEnds() {
        C.due("21 to the last place from the first", Tell.anew("hm0070;").road(0, 7), 7);
        C.due("21 the first two", Tell.anew("hm0001;").road(0, 0), 1);
        C.due("21 the last two", Tell.anew("hm0076;").road(0, 7), 67);
        C.due("21 the lesser is told first", Tell.anew("hm0025;").road(0, 2), 25);
        ShodForTheRoad all = Tell.allRoads();
        Tell.to(all, "hm0076;");
        C.due("21 of all roads none lacks", all.road(0, 7), -9);
        all.roads(7, 6);
        C.due("21 the only one that lacks", all.road(0, 7), 67);
        C.due("21 it is not made", all.count(2), 27);
    }

    private static void roadNotSooner() {
        ShodForTheRoad x = Tell.anew("r01;r12;hm0020;");
        C.due("21 he is there", x.road(0, 0), -9);
        C.due("21 he comes as soon as can be", x.road(0, 1), -9);
        C.due("21 sooner", x.road(0, 2), 2);
        C.due("21 nor to where he does not go", x.road(0, 7), -9);
        // Without 0-1 he would go by 2 at once; but that is a road less, not one more.
        ShodForTheRoad less = Tell.anew("r71;r10;r72;r20;hm0707;");
        C.due("21 between places that have a road none is made or missed", less.road(0, 2), -9);
    }

    private static void roadOfSeveral() {
        // Two ways to 0 of four roads each; he takes that by 1. By 02, 04, 25 and 26 that by 2 is the shorter.
        ShodForTheRoad x = Tell.anew("r71;r13;r35;r50;r72;r24;r46;r60;hm0707;");
        C.due("21 he goes by the lesser", x.comes(0, 2), -9);
        C.due("21 of several the first", x.road(0, 2), 2);
        x.roads(0, 2);
        x.roads(0, 6);
        C.due("21 he goes by the shorter", x.comes(0, 2), 1);
    }

    private static void cutAtItsEnds() {
        C.due("22 no roads", Tell.anew("hm0010;").cut(0, 1), -9);
        C.due("22 he is there", Tell.anew("r01;hm0011;").cut(0, 1), -9);
        C.due("22 the first two", Tell.anew("r01;hm0001;").cut(0, 0), 1);
        C.due("22 the last two", Tell.anew("r67;hm0076;").cut(0, 7), 67);
        C.due("22 of several the first, not the first he rides", Tell.anew(LONG_LINE + "hm0007;").cut(0, 0), 1);
        C.due("22 he never is with it", Tell.anew("r01;hm0001;").cut(0, 7), -9);
        ShodForTheRoad all = Tell.allRoads();
        Tell.to(all, "hm0070;");
        C.due("22 of all roads none is needed", all.cut(0, 7), -9);
        C.due("22 all are there still", all.count(2), 28);
        // Without 1-2 he goes by 3, which is a way too; but then he never is at 1.
        ShodForTheRoad ring = Tell.anew("r01;r12;r03;r32;hm0020;");
        C.due("22 a place on one way alone", ring.cut(0, 1), 1);
        C.due("22 a place on both", ring.cut(0, 2), -9);
    }

    private static void innAtItsLimits() {
        ShodForTheRoad x = Tell.anew("r01;r12;r23;hm0030;hm0322;");
        C.due("23 on day 0 alone: the least", x.inn(0, 0), 0);
        C.due("23 on day 0 alone", x.inn(0, 1), 1);
        C.due("23 day 1 is not enough", x.inn(1, 1), 1);
        C.due("23 with day 2 itself", x.inn(2, 0), 2);
        C.due("23 with day 2 itself", x.inn(2, 1), 2);
        C.due("23 thirty", x.inn(30, 1), 2);
        C.due("23 on day 0 alone, asked again", x.inn(0, 1), 1);
        C.due("23 below", x.inn(-1, 0), -4);
        C.due("23 above", x.inn(31, 0), -6);
        ShodForTheRoad slow = slowest();
        Tell.to(slow, "hm0777;");
        C.due("23 29 days are not enough", slow.inn(29, 1), 1);
        C.due("23 the thirtieth day itself", slow.inn(30, 0), 7);
        C.due("23 the thirtieth day itself", slow.inn(30, 1), 2);
    }

    private static void innOfNobodyOrSeveral() {
        ShodForTheRoad nobody = new ShodForTheRoad();
        C.due("23 of nobody the least", nobody.inn(0, 0), 0);
        C.due("23 of nobody", nobody.inn(30, 1), 0);
        ShodForTheRoad six = Tell.anew("hm0077;".repeat(6));
        C.due("23 all at the last place", six.inn(30, 0), 7);
        C.due("23 all six, each once", six.inn(30, 1), 6);
        ShodForTheRoad two = Tell.anew("hm0077;hm0055;");
        C.due("23 of several the least", two.inn(30, 0), 5);
        // They are at 1 on different days.
        ShodForTheRoad past = Tell.anew("r01;r12;hm0020;hm0021;");
        C.due("23 on some day, not on one", past.inn(1, 0), 1);
    }

    private static void trulyAtItsEnds() {
        C.due("28 none now", Tell.anew("hm0000;").truly(0), 0);
        C.due("28 the last on the first day", Tell.anew("hb0000;").truly(0), 1);
        C.due("28 the longest", slowest().truly(0), 32);
        ShodForTheRoad never = Tell.anew("hb0000;");
        never.turn(0, 3, 9);
        C.due("28 never", never.truly(0), -9);
        never.turn(0, 4, 9);
        never.days(7);
        C.due("28 on the eighth day", never.truly(0), 1);
    }

    private static void trulyAtTheMostWorn() {
        C.due("28 one at 96, and no more", worn(95, 4, 9).truly(0), -9);
        C.due("28 all four in time", worn(71, 4, 9).truly(0), 25);
        C.due("28 three alone", worn(72, 4, 9).truly(0), -9);
        C.due("28 each day at 99", worn(99, 0, 6).truly(0), 4);
        C.due("28 each day at 99", worn(99, 2, 0).truly(0), 4);
        C.due("28 never at 99", worn(99, 2, 3).truly(0), -9);
        ShodForTheRoad none = worn(99, 0, 0);
        none.days(4);
        C.due("28 none left at 99", none.truly(0), 0);
    }

    private static void totalAtItsLimits() {
        C.due("29 of nobody", new ShodForTheRoad().total(0), 0);
        C.due("29 of nobody", new ShodForTheRoad().total(60), 0);
        ShodForTheRoad six = Tell.anew("hr0107;".repeat(6));
        C.due("29 no way for six, now", six.total(0), 54);
        C.due("29 nor behind sixty", six.total(60), 54);
        ShodForTheRoad slow = slowest();
        C.due("29 now", slow.total(0), 7);
        C.due("29 the day before", slow.total(29), 1);
        C.due("29 the day itself", slow.total(30), 0);
        C.due("29 sixty", slow.total(60), 0);
        C.due("29 below", slow.total(-1), -4);
        C.due("29 above", slow.total(61), -6);
    }

    private static void bareAtItsLimits() {
        C.due("30 of nobody", new ShodForTheRoad().bare(30), -9);
        ShodForTheRoad x = slowest();
        C.due("30 behind none it is all one", x.bare(0), -9);
        C.due("30 behind one", x.bare(1), 0);
        C.due("30 behind 29 he would be there, else not", x.bare(29), 0);
        C.due("30 behind 30 he is there", x.bare(30), -9);
        C.due("30 below", x.bare(-1), -4);
        C.due("30 above", x.bare(31), -6);
        x.turn(0, 3, 0);
        C.due("30 behind 30 one who never wears", x.bare(30), 0);
        C.due("30 shoes stay", x.rider(0, 5), 4);
        C.due("30 one who has none", Tell.anew(LONG_LINE + "hm0070;").bare(3), -9);
    }

    private static void bareOfSeveral() {
        ShodForTheRoad x = Tell.anew("r01;r12;r23;hm0001;hr0301;hr0301;");
        C.due("30 of several the least", x.bare(1), 1);
        ShodForTheRoad y = Tell.anew("r01;r12;r23;hp9201;hr0300;hr0302;");
        C.due("30 the one by whom it is least", y.bare(2), 2);
        ShodForTheRoad six = Tell.anew("r01;" + "hm0001;".repeat(5) + "hr9101;");
        C.due("30 the last", six.bare(1), 5);
    }

    private static void twoAtItsLimits() {
        ShodForTheRoad x = Tell.anew(LONG_LINE + "hr9070;hr9707;");
        x.turn(0, 3, 0);
        x.turn(1, 3, 0);
        C.due("31 behind none it is not worth it", x.two(0, 1, 0), 0);
        C.due("31 behind thirty for both", x.two(0, 1, 30), 11);
        x.turn(0, 0, 0);
        C.due("31 for the other alone", x.two(0, 1, 30), 1);
        C.due("31 for the first alone", x.two(1, 0, 30), 10);
        C.due("31 below", x.two(0, 1, -1), -4);
        C.due("31 above", x.two(0, 1, 31), -6);
        C.due("31 one twice", x.two(1, 1, 0), -1);
        C.due("31 one twice goes first", x.two(1, 1, 31), -1);
        C.due("31 nobody is shod", x.rider(1, 5), 4);
    }

    private static void twoOfEqualCost() {
        // Shod he is a step nearer, which is as good as not: the first pair is that without.
        ShodForTheRoad x = Tell.anew("r01;r12;hr9101;hr9101;");
        x.turn(0, 3, 0);
        x.turn(1, 3, 0);
        C.due("31 as good: neither", x.two(0, 1, 1), 0);
        ShodForTheRoad y = Tell.anew("r01;r12;hr9202;hm0000;");
        y.turn(0, 3, 0);
        C.due("31 a step, as good", y.two(0, 1, 1), 0);
        C.due("31 two steps, better", y.two(0, 1, 2), 10);
        C.due("31 two steps, for the other", y.two(1, 0, 2), 1);
    }

    private static void mudIs(ShodForTheRoad x, int place, int n, int t, long above, long below) {
        String call = "32 mud(0, " + place + ", " + n + ", " + t + ", ";
        C.due(call + "0)", x.mud(0, place, n, t, 0), above);
        C.due(call + "1)", x.mud(0, place, n, t, 1), below);
    }

    private static void mudOfNoDays() {
        ShodForTheRoad x = Tell.anew("r01;hm0010;");
        mudIs(x, 0, 0, 2, 1, 1);
        mudIs(x, 0, 0, 20, 1, 1);
        mudIs(x, 1, 0, 2, 0, 1);
        mudIs(x, 7, 0, 20, 0, 1);
    }

    private static void mudAtItsLimits() {
        ShodForTheRoad x = Tell.anew(LONG_LINE + "hm0070;");
        mudIs(x, 1, 1, 2, 1, 2);
        mudIs(x, 1, 1, 20, 19, 20);
        mudIs(x, 0, 1, 20, 1, 20);
        mudIs(x, 7, 7, 2, 1, 128);
        mudIs(x, 7, 7, 20, 893871739L, 1280000000L);
        mudIs(x, 0, 7, 20, 1, 1280000000L);
        mudIs(x, 1, 7, 2, 7, 128);
        mudIs(x, 7, 6, 20, 0, 1);
        long sum = 0;
        for (int place = 0; place < 8; place++) {
            sum += x.mud(0, place, 7, 20, 0) * (1280000000L / x.mud(0, place, 7, 20, 1));
        }
        C.due("32 he is somewhere", sum, 1280000000L);
        C.due("32 n below", x.mud(0, 0, -1, 2, 0), 4000000000000000004L);
        C.due("32 t below", x.mud(0, 0, 0, 1, 0), 4000000000000000004L);
        C.due("32 n above", x.mud(0, 0, 8, 2, 0), 4000000000000000006L);
        C.due("32 t above", x.mud(0, 0, 0, 21, 0), 4000000000000000006L);
    }

    private static void mudWearsIron() {
        // Four shoes, one less each day, mud or not: on day 1 he would go to 2, on day 2 stay, on day 3 go back.
        ShodForTheRoad x = Tell.anew("r01;r12;hr0201;");
        mudIs(x, 2, 1, 3, 2, 3);
        mudIs(x, 1, 1, 3, 1, 3);
        mudIs(x, 2, 2, 3, 2, 3);
        mudIs(x, 2, 3, 3, 2, 9);
        mudIs(x, 1, 3, 3, 5, 9);
        mudIs(x, 0, 3, 3, 2, 9);
        C.due("32 his own stay", x.rider(0, 5), 4);
    }

    private static void mudInLeastTerms() {
        ShodForTheRoad x = Tell.anew("hm0010;");
        mudIs(x, 0, 7, 20, 1, 1);
        mudIs(x, 1, 7, 20, 0, 1);
        ShodForTheRoad y = Tell.anew("r01;r12;hm0020;");
        mudIs(y, 1, 2, 2, 1, 2);
        mudIs(y, 1, 2, 4, 3, 8);
        mudIs(y, 2, 2, 10, 81, 100);
        mudIs(y, 1, 2, 10, 9, 50);
    }

    private static void whatWantedOfNoRow() {
        ShodForTheRoad x = Tell.anew("r01;hr0123;");
        C.due("34 all places", x.whatWanted(0, 0), 255);
        C.due("34 all kinds", x.whatWanted(0, 1), 63);
        Tell.row(x, 3);
        C.due("34 where he is: all places", x.whatWanted(0, 0), 255);
        C.due("34 where he is: all kinds", x.whatWanted(0, 1), 63);
        Tell.row(x, 2);
        C.due("34 where he is not: no place", x.whatWanted(0, 0), 0);
        C.due("34 where he is not: no kind", x.whatWanted(0, 1), 0);
    }

    private static void whatWantedOfALongRow() {
        ShodForTheRoad x = Tell.anew("r01;r12;r23;hr9020;");
        x.turn(0, 3, 0);
        // With four shoes for good he goes to what he wants and stays.
        Tell.row(x, 0, 1, 2, 3, 3, 3, 3, 3, 3, 3, 3, 3, 3, 3, 3, 3);
        C.due("34 sixteen that are so", x.whatWanted(0, 0), 8);
        Tell.row(x, 0, 1, 2, 3, 3, 3, 3, 3, 3, 3, 3, 3, 3, 3, 3, 2);
        C.due("34 the sixteenth is not so", x.whatWanted(0, 0), 0);
        Tell.row(x, 0, 1);
        C.due("34 two", x.whatWanted(0, 0), 14);
        C.due("34 the row stays", x.count(6), 2);
    }

    private static void whatWantedOfNoPlace() {
        ShodForTheRoad x = Tell.anew("hm0700;");
        for (int number : new int[] {8, 10, 16, 64, 99}) {
            Tell.row(x, number);
            C.due("34 no place " + number, x.whatWanted(0, 0), 0);
            Tell.row(x, 0, number);
            C.due("34 no place " + number + " behind one", x.whatWanted(0, 1), 0);
        }
        ShodForTheRoad last = Tell.anew("hm0777;");
        Tell.row(last, 7, 7);
        C.due("34 the last place", last.whatWanted(0, 0), 255);
    }

    private static void kindsBySixteenDays() {
        // Four shoes for 0, where he is. At figure 9 a RIDER and BISHOP (4 days) and a FOX HUNTER (4) go on day 12,
        // a NEPHEW (3) on day 9, a PILGRIM (8) on day 24, a MARE never.
        ShodForTheRoad x = Tell.anew("r01;hr9010;");
        Tell.row(x, 0, 0, 0, 0, 0, 0, 0, 0, 0, 1);
        C.due("34 on day 9", x.whatWanted(0, 1), 4);
        Tell.row(x, 0, 0, 0, 0, 0, 0, 0, 0, 0, 0, 0, 0, 1);
        C.due("34 on day 12", x.whatWanted(0, 1), 35);
        Tell.row(x, 0, 0, 0, 0, 0, 0, 0, 0, 0, 0, 0, 0, 0, 0, 0, 0);
        C.due("34 not within 15", x.whatWanted(0, 1), 24);
        C.due("34 shoes as now", x.rider(0, 5), 4);
    }

    /** The document's draw in longs, without an int's wrap. */
    private static final class Draws {
        private long z;

        Draws(int seed) {
            z = seed & 0xffffffffL;
        }

        int below(int m) {
            z = (z * 1664525L + 1013904223L) % 4294967296L;
            return (int) (z % 2147483648L / 256 % m);
        }
    }

    private static int lotsAt(int riders, int says, int n, int seed) {
        Draws draws = new Draws(seed);
        int there = 0;
        for (int i = 0; i < n * riders; i++) {
            there += draws.below(8) == says ? 1 : 0;
            draws.below(5);
        }
        return there;
    }

    private static void lotsOfOneAndTwenty() {
        ShodForTheRoad x = Tell.anew("hm0070;");
        for (int n : new int[] {1, 2, 19, 20}) {
            int there = lotsAt(1, 7, n, 5);
            C.due("38 at it of " + n, x.lots(n, 5, 1), there);
            C.due("38 steps of " + n, x.lots(n, 5, 0), 9 * (n - there));
        }
        C.due("38 none", x.lots(0, 5, 0), -4);
        C.due("38 far below", x.lots(Integer.MIN_VALUE, 5, 0), -4);
        C.due("38 one more", x.lots(21, 5, 0), -6);
        C.due("38 he is where he was", x.rider(0, 4), 0);
        ShodForTheRoad six = Tell.anew("hm0030;".repeat(6));
        C.due("38 of six, twenty times", six.lots(20, 5, 1), lotsAt(6, 3, 20, 5));
    }

    private static void lotsOfAnySeed() {
        for (int seed : new int[] {Integer.MIN_VALUE, Integer.MIN_VALUE + 1, -1, 0, 1, Integer.MAX_VALUE}) {
            for (int says = 0; says < 8; says++) {
                ShodForTheRoad x = Tell.anew("hm00" + says + "0;");
                C.due("38 seed " + seed, x.lots(20, seed, 1), lotsAt(1, says, 20, seed));
                C.due("38 the first draw of " + seed, x.lots(1, seed, 1), lotsAt(1, says, 1, seed));
                C.due("38 the same again", x.lots(20, seed, 1), lotsAt(1, says, 20, seed));
            }
        }
    }

    private static void lotsOfShoes() {
        // Every place is a step away: with more than two shoes he goes to 6, with fewer to 7, with two to 6 unless at 7.
        ShodForTheRoad x = Tell.allRoads();
        Tell.to(x, "hm0670;");
        for (int seed = -3; seed <= 3; seed++) {
            Draws draws = new Draws(seed);
            int there = 0;
            for (int i = 0; i < 20; i++) {
                int at = draws.below(8);
                int shoes = draws.below(5);
                there += shoes < 2 || shoes == 2 && at == 7 ? 1 : 0;
            }
            C.due("38 by shoes of seed " + seed, x.lots(20, seed, 1), there);
            C.due("38 steps of seed " + seed, x.lots(20, seed, 0), 20 - there);
        }
    }

    private static int lotsOfFewerShoes(int than, int seed) {
        Draws draws = new Draws(seed);
        int many = 0;
        for (int i = 0; i < 20; i++) {
            draws.below(8);
            many += draws.below(5) < than ? 1 : 0;
        }
        return many;
    }

    private static void lotsOfTenDays() {
        // He loses a shoe each eighth day. Of three the second goes on day 10 or 11, and he goes to 7 only then.
        ShodForTheRoad x = Tell.allRoads();
        Tell.to(x, "hp9670;d05;");
        for (int seed = 0; seed < 5; seed++) {
            C.due("38 day 11 is not lived, seed " + seed, x.lots(20, seed, 1), lotsOfFewerShoes(3, seed));
        }
        x.days(1);
        for (int seed = 0; seed < 5; seed++) {
            C.due("38 day 10 is lived, seed " + seed, x.lots(20, seed, 1), lotsOfFewerShoes(4, seed));
        }
    }

    private static void lotsOfNobody() {
        C.due("38 steps of nobody", new ShodForTheRoad().lots(20, 5, 0), 0);
        C.due("38 nobody is there", new ShodForTheRoad().lots(1, 5, 1), 0);
    }
}
