import java.util.Random;

/** Runs of calls by a fixed lot on the class and on the oracle: each answer must be the same. */
public final class OracleTest {
    private static final int OBJECTS = 400;
    private static final int[] EDGES = {Integer.MIN_VALUE, -61, -10, -9, -2, -1, 8, 9, 10, 16, 17, 21, 30, 31, 59, 60,
        61, 96, 99, 100, 255, 256, 999, Integer.MAX_VALUE - 1, Integer.MAX_VALUE};

    private final Random lot;
    private final ShodForTheRoad x = new ShodForTheRoad();
    private final Oracle y = new Oracle();
    private final int object;
    private int made;
    private int wrong;

    private OracleTest(int object) {
        this.object = object;
        this.lot = new Random(object * 7919L + 17);
    }

    public static void main(String[] args) {
        int wrong = 0;
        for (int object = 0; object < OBJECTS; object++) {
            OracleTest test = new OracleTest(object);
            test.live();
            wrong += test.wrong;
        }
        System.out.println(OBJECTS + " runs compared, " + wrong + " answers differ");
        if (wrong != 0) {
            System.exit(1);
        }
    }

    private void same(String call, long got, long want) {
        made++;
        if (got != want) {
            wrong++;
            if (wrong <= 3) System.out.println("object " + object + ", call " + made + ": " + call + " answered " + got
                + ", due is " + want);
        }
    }

    private void live() {
        tell(roadsText());
        tell(ridersText());
        while (made < 420) {
            if (lot.nextInt(12) == 0) {
                tell(anyText());
            } else {
                call(lot.nextInt(38));
            }
        }
        for (int what = -1; what <= 18; what++) {
            same("count(" + what + ")", x.count(what), y.count(what));
        }
    }

    private void tell(String text) {
        for (int i = 0; i < text.length(); i++) {
            same("letter(" + (int) text.charAt(i) + ")", x.letter(text.charAt(i)), y.letter(text.charAt(i)));
        }
        same("county() of " + text, x.county(), y.county());
    }

    private int d(int below) {
        return lot.nextInt(below);
    }

    private String roadsText() {
        StringBuilder s = new StringBuilder();
        int roads = d(24);
        for (int i = 0; i < roads; i++) {
            int a = d(8);
            s.append('r').append(a).append((a + 1 + d(7)) % 8).append(';');
        }
        return s.toString();
    }

    private String ridersText() {
        StringBuilder s = new StringBuilder();
        int riders = d(7);
        for (int i = 0; i < riders; i++) {
            s.append(rider());
        }
        return s.toString();
    }

    private String rider() {
        return "h" + Oracle.KIND_LETTERS.charAt(d(6)) + d(10) + d(8) + d(8) + d(8) + ";";
    }

    private String anyText() {
        StringBuilder s = new StringBuilder();
        int statements = d(5);
        int top = d(4) == 0 ? 10 : 7;
        for (int i = 0; i < statements; i++) {
            switch (d(6)) {
                case 0: s.append('r').append(d(top)).append(d(top)).append(';'); break;
                case 1: s.append(rider()); break;
                case 2: s.append('s').append(d(top)).append(';'); break;
                case 3: s.append('w').append(d(top)).append(d(top)).append(';'); break;
                case 4: s.append('a').append(d(top)).append(d(top)).append(';'); break;
                default: s.append('d').append(d(top)).append(d(10)).append(';'); break;
            }
        }
        if (d(3) == 0 && s.length() > 0) {
            int at = d(s.length());
            if (d(2) == 0) {
                s.setCharAt(at, "rhswad;09xz \u00ff".charAt(d(13)));
            } else {
                s.deleteCharAt(at);
            }
        }
        return s.toString();
    }

    private int man() {
        return d(25) == 0 ? EDGES[d(EDGES.length)] : d(Math.max(1, y.count(0)));
    }

    private int place() {
        return d(25) == 0 ? EDGES[d(EDGES.length)] : d(8);
    }

    private int what(int below) {
        return d(25) == 0 ? EDGES[d(EDGES.length)] : d(below);
    }

    private int number(int least, int greatest) {
        return d(12) == 0 ? EDGES[d(EDGES.length)] : least + d(greatest - least + 1);
    }

    private void call(int which) {
        int a = man();
        int b = man();
        int p = place();
        int q = place();
        int w = what(2);
        int n = number(0, 60);
        int few = number(0, 30);
        String say = which + "(" + a + ", " + b + ", " + p + ", " + q + ", " + w + ", " + n + ", " + few;
        switch (which) {
            case 0: { int v = what(8); same("rider" + say + ", " + v, x.rider(a, v), y.rider(a, v)); break; }
            case 1: same("steps" + say, x.steps(p, q), y.steps(p, q)); break;
            case 2: same("pulls" + say, x.pulls(a, p), y.pulls(a, p)); break;
            case 3: same("roads" + say, x.roads(p, q), y.roads(p, q)); break;
            case 4: same("shod" + say, x.shod(a), y.shod(a)); break;
            case 5: same("wants" + say, x.wants(a, p), y.wants(a, p)); break;
            case 6: same("stands" + say, x.stands(a, p), y.stands(a, p)); break;
            case 7: {
                int k = what(6);
                int f = number(0, 9);
                same("turn" + say + ", " + k + ", " + f, x.turn(a, k, f), y.turn(a, k, f));
                break;
            }
            case 8: { int v = number(1, d(3) == 0 ? 60 : 4); same("days" + v, x.days(v), y.days(v)); break; }
            case 9: same("riderThen" + say, x.riderThen(a, n, w), y.riderThen(a, n, w)); break;
            case 10: same("comes" + say, x.comes(a, p), y.comes(a, p)); break;
            case 11: same("first" + say, x.first(p), y.first(p)); break;
            case 12: same("rests" + say, x.rests(a), y.rests(a)); break;
            case 13: same("meet" + say, x.meet(a, b, w), y.meet(a, b, w)); break;
            case 14: same("arrived" + say, x.arrived(), y.arrived()); break;
            case 15: same("shoe" + say, x.shoe(a, p, w), y.shoe(a, p, w)); break;
            case 16: same("wish" + say, x.wish(a, p), y.wish(a, p)); break;
            case 17: same("road" + say, x.road(a, p), y.road(a, p)); break;
            case 18: same("cut" + say, x.cut(a, p), y.cut(a, p)); break;
            default: callMore(which, a, b, p, w, n, few, say); break;
        }
    }

    private void callMore(int which, int a, int b, int p, int w, int n, int few, String say) {
        switch (which) {
            case 19: same("inn" + say, x.inn(few, w), y.inn(few, w)); break;
            case 20: same("busiest" + say, x.busiest(), y.busiest()); break;
            case 21: same("near" + say, x.near(p), y.near(p)); break;
            case 22: { int v = what(4); same("apart" + v, x.apart(v), y.apart(v)); break; }
            case 23: same("tired" + say, x.tired(), y.tired()); break;
            case 24: same("truly" + say, x.truly(a), y.truly(a)); break;
            case 25: same("total" + say, x.total(n), y.total(n)); break;
            case 26: same("bare" + say, x.bare(few), y.bare(few)); break;
            case 27: same("two" + say, x.two(a, b, few), y.two(a, b, few)); break;
            case 28: {
                int days = number(0, 7);
                int t = number(2, 20);
                same("mud" + say + ", " + days + ", " + t, x.mud(a, p, days, t, w), y.mud(a, p, days, t, w));
                break;
            }
            case 29: same("mean" + say, x.mean(w), y.mean(w)); break;
            case 30: same("whatWanted" + say, x.whatWanted(a, w), y.whatWanted(a, w)); break;
            case 31: rowOfCourse(a); break;
            case 32: rowOfPlaces(); break;
            case 33: { int v = number(0, 99); same("row" + v, x.row(v), y.row(v)); break; }
            case 34: same("clear" + say, x.clear(), y.clear()); break;
            case 35: {
                int lots = number(1, 20);
                int z = d(2) == 0 ? lot.nextInt() : d(100);
                same("lots" + lots + ", " + z + ", " + w, x.lots(lots, z, w), y.lots(lots, z, w));
                break;
            }
            case 36:
                if (d(2) == 0) same("image" + say, x.image(), y.image());
                else same("on" + say, x.on(), y.on());
                break;
            default: { int v = what(18); same("count" + v, x.count(v), y.count(v)); break; }
        }
    }

    /** Mostly a true course of the rider under another wish or kind, so that the bits tell something. */
    private void rowOfCourse(int a) {
        same("clear", x.clear(), y.clear());
        int length = d(18);
        for (int day = 0; day < length; day++) {
            int then = y.riderThen(a, day, 0);
            same("riderThen(" + a + ", " + day + ", 0)", x.riderThen(a, day, 0), then);
            int at = d(30) == 0 ? d(12) : Math.max(0, then);
            same("row" + at, x.row(at), y.row(at));
        }
        same("whatWanted(" + a + ", 0)", x.whatWanted(a, 0), y.whatWanted(a, 0));
        same("whatWanted(" + a + ", 1)", x.whatWanted(a, 1), y.whatWanted(a, 1));
    }

    private void rowOfPlaces() {
        same("clear", x.clear(), y.clear());
        int length = d(8);
        for (int i = 0; i < length; i++) {
            int there = y.rider(i, 4);
            same("rider(" + i + ", 4)", x.rider(i, 4), there);
            int at = d(6) == 0 ? d(9) : Math.max(0, there);
            same("row" + at, x.row(at), y.row(at));
        }
        same("judge", x.judge(), y.judge());
    }
}
