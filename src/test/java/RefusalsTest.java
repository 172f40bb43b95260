/**
 * Each call with each of its arguments at, just below, just above and far from its limits, in every mixture: which
 * refusal comes (the first in the promise's order), that it alone is counted, and that nothing else changes.
 */
public final class RefusalsTest {
    private static final long LONGS = 4000000000000000000L;
    private static final String ROADS = "r01;r12;r23;r34;r45;";
    private static final String[] RIDERS = {"hr0503;", "hp4261;", "hm9777;", "hb0123;", "hu9012;", "hx5670;"};
    private static final Check C = new Check();

    private interface Call {
        long on(ShodForTheRoad x, int[] given);
    }

    /** An argument's limits, with the refusal of what is below and of what is above them. */
    private record Limits(int least, int greatest, int below, int above) {
        int refusalOf(int value) {
            if (value < least) {
                return below;
            }
            return value > greatest ? above : 0;
        }

        int[] values() {
            return new int[] {Integer.MIN_VALUE, least - 1, least, greatest, greatest + 1, Integer.MAX_VALUE};
        }
    }

    private final int riders;

    private RefusalsTest(int riders) {
        this.riders = riders;
    }

    public static void main(String[] args) {
        for (int riders : new int[] {0, 1, 3, 6}) {
            RefusalsTest test = new RefusalsTest(riders);
            test.callsOfNow();
            test.callsOfThought();
            test.callsOfRows();
            test.callsThatAreNeverRefused();
        }
        C.end();
    }

    private void callsOfNow() {
        look("2 letter", (x, g) -> x.letter(g[0]), order(-4, -6), number(0, 255));
        look("4 rider", (x, g) -> x.rider(g[0], g[1]), order(-1, -2), rider(), what(7));
        look("5 steps", (x, g) -> x.steps(g[0], g[1]), order(-1), place(), place());
        look("6 pulls", (x, g) -> x.pulls(g[0], g[1]), order(-1), rider(), place());
        lookTwice("7 roads", (x, g) -> x.roads(g[0], g[1]), order(-1), place(), place());
        look("8 shod", (x, g) -> x.shod(g[0]), order(-1), rider());
        look("9 wants", (x, g) -> x.wants(g[0], g[1]), order(-1), rider(), place());
        look("10 stands", (x, g) -> x.stands(g[0], g[1]), order(-1), rider(), place());
        look("11 turn", (x, g) -> x.turn(g[0], g[1], g[2]), order(-1, -2, -4, -6), rider(), what(5), number(0, 9));
        look("12 days", (x, g) -> x.days(g[0]), order(-4, -6), number(1, 60));
        look("25 near", (x, g) -> x.near(g[0]), order(-1), place());
        look("26 apart", (x, g) -> x.apart(g[0]), order(-2), what(3));
        lookLong("33 mean", (x, g) -> x.mean(g[0]), order(-2), what(1));
    }

    private void callsOfThought() {
        look("13 riderThen", (x, g) -> x.riderThen(g[0], g[1], g[2]), order(-1, -4, -6, -2),
            rider(), number(0, 60), what(1));
        look("14 comes", (x, g) -> x.comes(g[0], g[1]), order(-1), rider(), place());
        look("15 first", (x, g) -> x.first(g[0]), order(-1), place());
        look("16 rests", (x, g) -> x.rests(g[0]), order(-1), rider());
        lookTwice("17 meet", (x, g) -> x.meet(g[0], g[1], g[2]), order(-1, -2), rider(), rider(), what(1));
        look("19 shoe", (x, g) -> x.shoe(g[0], g[1], g[2]), order(-1, -2), rider(), place(), what(1));
        look("20 wish", (x, g) -> x.wish(g[0], g[1]), order(-1), rider(), place());
        look("21 road", (x, g) -> x.road(g[0], g[1]), order(-1), rider(), place());
        look("22 cut", (x, g) -> x.cut(g[0], g[1]), order(-1), rider(), place());
        look("23 inn", (x, g) -> x.inn(g[0], g[1]), order(-4, -6, -2), number(0, 30), what(1));
        look("28 truly", (x, g) -> x.truly(g[0]), order(-1), rider());
        look("29 total", (x, g) -> x.total(g[0]), order(-4, -6), number(0, 60));
        look("30 bare", (x, g) -> x.bare(g[0]), order(-4, -6), number(0, 30));
        lookTwice("31 two", (x, g) -> x.two(g[0], g[1], g[2]), order(-1, -4, -6), rider(), rider(), number(0, 30));
        lookLong("32 mud", (x, g) -> x.mud(g[0], g[1], g[2], g[3], g[4]), order(-1, -4, -6, -2),
            rider(), place(), number(0, 7), number(2, 20), what(1));
    }

    private void callsOfRows() {
        look("34 whatWanted", (x, g) -> x.whatWanted(g[0], g[1]), order(-1, -2), rider(), what(1));
        look("35 row", (x, g) -> x.row(g[0]), order(-4, -6), number(0, 99));
        look("38 lots", (x, g) -> x.lots(g[0], g[1], g[2]), order(-4, -6, -2), number(1, 20), any(), what(1));
        look("41 count", (x, g) -> x.count(g[0]), order(), any());
    }

    private void callsThatAreNeverRefused() {
        look("3 county", (x, g) -> x.county(), order());
        look("18 arrived", (x, g) -> x.arrived(), order());
        look("24 busiest", (x, g) -> x.busiest(), order());
        look("27 tired", (x, g) -> x.tired(), order());
        look("36 judge", (x, g) -> x.judge(), order());
        look("37 clear", (x, g) -> x.clear(), order());
        look("39 image", (x, g) -> x.image(), order());
        look("40 on", (x, g) -> x.on(), order());
    }

    private static int[] order(int... numbers) {
        return numbers;
    }

    private static Limits place() {
        return new Limits(0, 7, -1, -1);
    }

    private Limits rider() {
        return new Limits(0, riders - 1, -1, -1);
    }

    private static Limits what(int greatest) {
        return new Limits(0, greatest, -2, -2);
    }

    private static Limits number(int least, int greatest) {
        return new Limits(least, greatest, -4, -6);
    }

    private static Limits any() {
        return new Limits(Integer.MIN_VALUE, Integer.MAX_VALUE, 0, 0);
    }

    private void look(String name, Call call, int[] order, Limits... limits) {
        mixtures(name, call, order, false, 0, limits);
    }

    private void lookTwice(String name, Call call, int[] order, Limits... limits) {
        mixtures(name, call, order, true, 0, limits);
    }

    private void lookLong(String name, Call call, int[] order, Limits... limits) {
        mixtures(name, call, order, false, LONGS, limits);
    }

    private void mixtures(String name, Call call, int[] order, boolean twice, long longs, Limits[] limits) {
        int[] given = new int[limits.length];
        int all = (int) Math.pow(6, limits.length);
        for (int mixture = 0; mixture < all; mixture++) {
            int rest = mixture;
            for (int i = 0; i < limits.length; i++) {
                given[i] = limits[i].values()[rest % 6];
                rest /= 6;
            }
            int number = firstThatFits(order, twice, limits, given);
            String said = name + java.util.Arrays.toString(given) + " of " + riders;
            if (number == 0) {
                answered(said, call, given, longs);
            } else {
                refused(said, call, given, number, longs == 0 ? number : longs - number);
            }
        }
    }

    private static int firstThatFits(int[] order, boolean twice, Limits[] limits, int[] given) {
        for (int number : order) {
            if (number == -1 && twice && given[0] == given[1]) {
                return number;
            }
            for (int i = 0; i < limits.length; i++) {
                if (limits[i].refusalOf(given[i]) == number) {
                    return number;
                }
            }
        }
        return 0;
    }

    /**
     * With a county two days on, an image of day 0, a row that is so, and letters that would be a road; and a fault
     * behind a rider more, who must be nobody then.
     */
    private ShodForTheRoad prepared() {
        ShodForTheRoad x = Tell.anew(ROADS);
        for (int i = 0; i < riders; i++) {
            Tell.to(x, RIDERS[i]);
        }
        Tell.to(x, "hm0000;r00;");
        x.image();
        x.days(2);
        for (int i = 0; i < riders; i++) {
            x.row(x.rider(i, 4));
        }
        for (char c : "r67;".toCharArray()) {
            x.letter(c);
        }
        return x;
    }

    private void answered(String said, Call call, int[] given, long longs) {
        ShodForTheRoad x = prepared();
        String refusals = Seen.refusals(x);
        long answer = call.on(x, given);
        C.holds(said + " is answered, not " + answer, answer >= 0 || answer == -9 && longs == 0);
        C.holds(said + " is no long refusal", answer < LONGS);
        C.holds(said + " counts no refusal", Seen.refusals(x).equals(refusals));
    }

    private void refused(String said, Call call, int[] given, int number, long due) {
        ShodForTheRoad x = prepared();
        String seen = Seen.of(x);
        String refusals = Seen.refusals(x, number);
        C.due(said, call.on(x, given), due);
        C.holds(said + " is counted alone", Seen.refusals(x).equals(refusals));
        C.holds(said + " changes nothing", Seen.of(x).equals(seen));
        C.due(said + " leaves the row", x.judge(), -9);
        C.due(said + " leaves the letters", x.county(), 1);
        C.due(said + " leaves the letters as they are", x.near(6), 128);
        C.due(said + " leaves the image", x.on(), 0);
        C.due(said + " leaves the image as it is", x.count(5), 0);
    }
}
