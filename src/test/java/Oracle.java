import java.math.BigInteger;
import java.util.ArrayDeque;
import java.util.ArrayList;
import java.util.Deque;
import java.util.List;
import java.util.TreeSet;
import java.util.function.IntPredicate;
import java.util.regex.Matcher;
import java.util.regex.Pattern;

/**
 * The document told a second time, slowly and by other means than the class (whole counties copied and lived
 * through day by day, a regular expression, all courses of mud one by one), so that the two can be compared.
 */
final class Oracle {
    static final String KIND_LETTERS = "rbumpx";
    private static final String STATEMENT = "(?:r\\d\\d;|h[rbumpx]\\d\\d\\d\\d;|s\\d;|[wa]\\d\\d;|d\\d\\d;)";
    private static final Pattern COUNTY = Pattern.compile(STATEMENT + "+", Pattern.DOTALL);
    private static final Pattern ONE = Pattern.compile(STATEMENT);
    private static final long LONGS = 4000000000000000000L;

    static class Kind {
        int shoes() { return 4; }
        int days(int figure) { return figure / 3 + 1; }
    }

    static class Bishop extends Kind {
        @Override int shoes() { return 1; }
    }

    static class Nephew extends Kind {
        @Override int shoes() { return super.shoes() - 1; }
        @Override int days(int figure) { return super.days(figure) / 2 + 1; }
    }

    static final class Mare extends Bishop {
        @Override int shoes() { return super.shoes() - 1; }
        @Override int days(int figure) { return 0; }
    }

    static final class Pilgrim extends Kind {
        @Override int shoes() { return super.shoes() / 2; }
        @Override int days(int figure) { return super.days(figure) * 2; }
    }

    static final class FoxHunter extends Nephew {
        @Override int days(int figure) { return super.days(figure) + 1; }
    }

    static Kind kindOf(int kind) {
        return switch (kind) {
            case 0 -> new Kind();
            case 1 -> new Bishop();
            case 2 -> new Nephew();
            case 3 -> new Mare();
            case 4 -> new Pilgrim();
            default -> new FoxHunter();
        };
    }

    static final class Man implements Cloneable {
        int kind, figure, wants, says, at, shoes, worn;

        Man copy() {
            try {
                return (Man) clone();
            } catch (CloneNotSupportedException e) {
                throw new IllegalStateException(e);
            }
        }

        int days() {
            return kindOf(kind).days(figure);
        }

        void shod() {
            shoes = kindOf(kind).shoes();
            worn = 0;
        }
    }

    static final class World {
        final TreeSet<Integer> roads = new TreeSet<>();
        final List<Man> men = new ArrayList<>();
        int day;

        World copy() {
            World w = new World();
            w.roads.addAll(roads);
            for (Man m : men) {
                w.men.add(m.copy());
            }
            w.day = day;
            return w;
        }

        boolean road(int a, int b) {
            return roads.contains(10 * Math.min(a, b) + Math.max(a, b));
        }

        int change(int a, int b) {
            Integer name = 10 * Math.min(a, b) + Math.max(a, b);
            if (!roads.remove(name)) {
                roads.add(name);
                return 1;
            }
            return 0;
        }

        private TreeSet<Integer> measuredRoads = new TreeSet<>();
        private final int[][] measured = new int[8][];

        int steps(int from, int to) {
            if (!measuredRoads.equals(roads)) {
                measuredRoads = new TreeSet<>(roads);
                java.util.Arrays.fill(measured, null);
            }
            if (measured[from] == null) {
                measured[from] = measure(from);
            }
            return measured[from][to];
        }

        private int[] measure(int from) {
            int[] far = new int[8];
            java.util.Arrays.fill(far, 9);
            far[from] = 0;
            Deque<Integer> open = new ArrayDeque<>();
            open.add(from);
            while (!open.isEmpty()) {
                int p = open.remove();
                for (int q = 0; q < 8; q++) {
                    if (q != p && road(p, q) && far[q] == 9) {
                        far[q] = far[p] + 1;
                        open.add(q);
                    }
                }
            }
            return far;
        }

        int pull(Man m, int place) {
            return m.shoes * steps(place, m.wants) + (4 - m.shoes) * steps(place, m.says);
        }

        void dayPasses(boolean mud) {
            day++;
            for (Man m : men) {
                m.worn = m.worn == 99 ? 99 : m.worn + 1;
                if (m.days() > 0 && m.worn % m.days() == 0 && m.shoes > 0) {
                    m.shoes--;
                }
                if (mud) {
                    continue;
                }
                int to = -1;
                for (int q = 7; q >= 0; q--) {
                    if (q != m.at && road(m.at, q) && (to < 0 || pull(m, q) <= pull(m, to))) {
                        to = q;
                    }
                }
                if (to >= 0 && pull(m, to) < pull(m, m.at)) {
                    m.at = to;
                }
            }
        }

        World after(int n) {
            World w = copy();
            for (int i = 0; i < n; i++) {
                w.dayPasses(false);
            }
            return w;
        }

        /** Where each man is behind 0, 1, .. n days: [day][man]. */
        int[][] course(int n) {
            int[][] at = new int[n + 1][men.size()];
            World w = copy();
            for (int d = 0; d <= n; d++) {
                for (int i = 0; i < men.size(); i++) {
                    at[d][i] = w.men.get(i).at;
                }
                w.dayPasses(false);
            }
            return at;
        }

        int comes(int man, int place) {
            int[][] at = course(60);
            return firstDay(d -> at[d][man] == place);
        }

        int total() {
            int sum = 0;
            for (Man m : men) {
                sum += steps(m.at, m.says);
            }
            return sum;
        }

        int there() {
            int bits = 0;
            for (int i = 0; i < men.size(); i++) {
                bits |= men.get(i).at == men.get(i).says ? 1 << i : 0;
            }
            return bits;
        }
    }

    private static int firstDay(IntPredicate so) {
        for (int d = 0; d <= 60; d++) {
            if (so.test(d)) {
                return d;
            }
        }
        return -9;
    }

    private World now = new World();
    private World image;
    private final StringBuilder letters = new StringBuilder();
    private final List<Integer> row = new ArrayList<>();
    private final int[] refused = new int[7];

    private int no(int number) {
        refused[-number]++;
        return number;
    }

    private boolean noMan(int... men) {
        for (int m : men) {
            if (m < 0 || m >= now.men.size()) {
                return true;
            }
        }
        return false;
    }

    private static boolean noPlace(int... places) {
        for (int p : places) {
            if (p < 0 || p > 7) {
                return true;
            }
        }
        return false;
    }

    /** Sooner is better, -9 is never. */
    private static boolean sooner(int day, int than) {
        return day != -9 && (than == -9 || day < than);
    }

    int letter(int c) {
        if (c < 0) return no(-4);
        if (c > 255 || letters.length() == 96) return no(-6);
        letters.append((char) c);
        return letters.length();
    }

    int county() {
        String text = letters.toString();
        letters.setLength(0);
        for (int end = 0; end <= text.length(); end++) {
            Matcher m = COUNTY.matcher(text.substring(0, end));
            if (!m.matches() && !m.hitEnd()) return -1000 - (end - 1);
        }
        if (!COUNTY.matcher(text).matches()) return -1000 - text.length();
        World told = now.copy();
        Matcher m = ONE.matcher(text);
        int statements = 0;
        while (m.find()) {
            if (!statement(told, m.group())) return -2000 - m.start();
            statements++;
        }
        now = told;
        return statements;
    }

    private static boolean statement(World w, String s) {
        int[] v = new int[s.length()];
        for (int i = 1; i < s.length() - 1; i++) {
            v[i] = s.charAt(i) - '0';
        }
        boolean man = v[1] >= 0 && v[1] < w.men.size();
        switch (s.charAt(0)) {
            case 'r':
                if (v[1] > 7 || v[2] > 7 || v[1] == v[2]) return false;
                w.change(v[1], v[2]);
                return true;
            case 'h':
                if (v[3] > 7 || v[4] > 7 || v[5] > 7 || w.men.size() == 6) return false;
                Man one = new Man();
                one.kind = KIND_LETTERS.indexOf(s.charAt(1));
                one.figure = v[2];
                one.wants = v[3];
                one.says = v[4];
                one.at = v[5];
                one.shod();
                w.men.add(one);
                return true;
            case 's':
                if (man) w.men.get(v[1]).shod();
                return man;
            case 'w':
                if (!man || v[2] > 7) return false;
                w.men.get(v[1]).wants = v[2];
                return true;
            case 'a':
                if (!man || v[2] > 7) return false;
                w.men.get(v[1]).at = v[2];
                return true;
            default:
                int n = 10 * v[1] + v[2];
                if (n < 1 || n > 60 || w.day + n > 999) return false;
                for (int i = 0; i < n; i++) {
                    w.dayPasses(false);
                }
                return true;
        }
    }

    int rider(int r, int what) {
        if (noMan(r)) return no(-1);
        if (what < 0 || what > 7) return no(-2);
        Man m = now.men.get(r);
        return new int[] {m.kind, m.figure, m.wants, m.says, m.at, m.shoes, m.worn, m.days()}[what];
    }

    int steps(int a, int b) {
        return noPlace(a, b) ? no(-1) : now.steps(a, b);
    }

    int pulls(int r, int p) {
        return noMan(r) || noPlace(p) ? no(-1) : now.pull(now.men.get(r), p);
    }

    int roads(int a, int b) {
        return noPlace(a, b) || a == b ? no(-1) : now.change(a, b);
    }

    int shod(int r) {
        if (noMan(r)) return no(-1);
        now.men.get(r).shod();
        return now.men.get(r).shoes;
    }

    int wants(int r, int p) {
        if (noMan(r) || noPlace(p)) return no(-1);
        int old = now.men.get(r).wants;
        now.men.get(r).wants = p;
        return old;
    }

    int stands(int r, int p) {
        if (noMan(r) || noPlace(p)) return no(-1);
        int old = now.men.get(r).at;
        now.men.get(r).at = p;
        return old;
    }

    int turn(int r, int kind, int figure) {
        if (noMan(r)) return no(-1);
        if (kind < 0 || kind > 5) return no(-2);
        if (figure < 0) return no(-4);
        if (figure > 9) return no(-6);
        Man m = now.men.get(r);
        int old = 10 * m.kind + m.figure;
        m.kind = kind;
        m.figure = figure;
        return old;
    }

    int days(int n) {
        if (n < 1) return no(-4);
        if (n > 60 || now.day + n > 999) return no(-6);
        now = now.after(n);
        return Integer.bitCount(now.there());
    }

    int riderThen(int r, int n, int what) {
        if (noMan(r)) return no(-1);
        if (n < 0) return no(-4);
        if (n > 60) return no(-6);
        if (what < 0 || what > 1) return no(-2);
        Man m = now.after(n).men.get(r);
        return what == 0 ? m.at : m.shoes;
    }

    int comes(int r, int p) {
        return noMan(r) || noPlace(p) ? no(-1) : now.comes(r, p);
    }

    int first(int p) {
        if (noPlace(p)) return no(-1);
        int[][] at = now.course(60);
        for (int d = 0; d <= 60; d++) {
            for (int i = 0; i < now.men.size(); i++) {
                if (at[d][i] == p) return i;
            }
        }
        return -9;
    }

    int rests(int r) {
        if (noMan(r)) return no(-1);
        int[][] at = now.course(65);
        return firstDay(d -> {
            for (int k = 1; k <= 5; k++) {
                if (at[d + k][r] != at[d][r]) return false;
            }
            return true;
        });
    }

    int meet(int a, int b, int what) {
        if (noMan(a, b) || a == b) return no(-1);
        if (what < 0 || what > 1) return no(-2);
        int[][] at = now.course(60);
        int when = firstDay(d -> at[d][a] == at[d][b]);
        return what == 0 || when == -9 ? when : at[when][a];
    }

    int arrived() {
        return firstDay(d -> now.after(d).there() == (1 << now.men.size()) - 1);
    }

    int shoe(int r, int p, int what) {
        if (noMan(r) || noPlace(p)) return no(-1);
        if (what < 0 || what > 1) return no(-2);
        int best = -9;
        int when = -9;
        for (int s = 0; s <= 4; s++) {
            World w = now.copy();
            w.men.get(r).shoes = s;
            int day = w.comes(r, p);
            if (sooner(day, when)) {
                when = day;
                best = s;
            }
        }
        return what == 0 ? best : when;
    }

    int wish(int r, int p) {
        if (noMan(r) || noPlace(p)) return no(-1);
        int best = -9;
        int when = now.comes(r, p);
        for (int q = 0; q < 8; q++) {
            World w = now.copy();
            w.men.get(r).wants = q;
            int day = w.comes(r, p);
            if (sooner(day, when)) {
                when = day;
                best = q;
            }
        }
        return best;
    }

    int road(int r, int p) {
        if (noMan(r) || noPlace(p)) return no(-1);
        int best = -9;
        int when = now.comes(r, p);
        for (int name = 1; name < 78; name++) {
            if (name / 10 < name % 10 && name % 10 < 8 && !now.roads.contains(name)) {
                World w = now.copy();
                w.roads.add(name);
                int day = w.comes(r, p);
                if (sooner(day, when)) {
                    when = day;
                    best = name;
                }
            }
        }
        return best;
    }

    int cut(int r, int p) {
        if (noMan(r) || noPlace(p)) return no(-1);
        for (int name : now.roads) {
            World w = now.copy();
            w.roads.remove((Integer) name);
            if (now.comes(r, p) != -9 && w.comes(r, p) == -9) return name;
        }
        return -9;
    }

    int inn(int n, int what) {
        if (n < 0) return no(-4);
        if (n > 30) return no(-6);
        if (what < 0 || what > 1) return no(-2);
        int[][] at = now.course(n);
        int best = 0;
        int most = 0;
        for (int p = 0; p < 8; p++) {
            TreeSet<Integer> guests = new TreeSet<>();
            for (int[] of : at) {
                for (int i = 0; i < of.length; i++) {
                    if (of[i] == p) guests.add(i);
                }
            }
            if (guests.size() > most) {
                most = guests.size();
                best = p;
            }
        }
        return what == 0 ? best : most;
    }

    int busiest() {
        int best = 0;
        for (int p = 0; p < 8; p++) {
            if (Integer.bitCount(bitsNear(p)) > Integer.bitCount(bitsNear(best))) best = p;
        }
        return best;
    }

    private int bitsNear(int p) {
        int bits = 0;
        for (int q = 0; q < 8; q++) {
            bits |= q != p && now.road(p, q) ? 1 << q : 0;
        }
        return bits;
    }

    int near(int p) {
        return noPlace(p) ? no(-1) : bitsNear(p);
    }

    int apart(int what) {
        if (what < 0 || what > 3) return no(-2);
        int answer = 0;
        if (what == 0) {
            for (int i = 0; i < 64; i++) {
                int s = now.steps(i / 8, i % 8);
                answer = s < 9 && s > answer ? s : answer;
            }
        } else if (what == 1) {
            for (int p = 0; p < 8; p++) {
                answer |= now.steps(0, p) == 9 ? 1 << p : 0;
            }
        } else {
            for (int i = 0; i < now.men.size(); i++) {
                Man m = now.men.get(i);
                answer |= (what == 2 ? m.wants == m.says : now.steps(m.at, m.says) == 9) ? 1 << i : 0;
            }
        }
        return answer;
    }

    int tired() {
        int best = -9;
        for (int i = now.men.size() - 1; i >= 0; i--) {
            if (best < 0 || now.men.get(i).worn >= now.men.get(best).worn) best = i;
        }
        return best;
    }

    int truly(int r) {
        if (noMan(r)) return no(-1);
        World w = now.copy();
        for (int d = 0; d <= 99; d++) {
            if (w.men.get(r).shoes == 0) return d;
            w.dayPasses(false);
        }
        return -9;
    }

    int total(int n) {
        if (n < 0) return no(-4);
        if (n > 60) return no(-6);
        return now.after(n).total();
    }

    int bare(int n) {
        if (n < 0) return no(-4);
        if (n > 30) return no(-6);
        int best = -9;
        int least = now.after(n).total();
        for (int i = 0; i < now.men.size(); i++) {
            World w = now.copy();
            w.men.get(i).shoes = 0;
            int t = w.after(n).total();
            if (t < least) {
                least = t;
                best = i;
            }
        }
        return best;
    }

    private int cost(int a, int b, int choiceA, int choiceB, int n, boolean ofA) {
        World w = now.copy();
        if (choiceA == 1) w.men.get(a).shod();
        if (choiceB == 1) w.men.get(b).shod();
        w = w.after(n);
        Man m = w.men.get(ofA ? a : b);
        return w.steps(m.at, m.says) + (ofA ? choiceA : choiceB);
    }

    int two(int a, int b, int n) {
        if (noMan(a, b) || a == b) return no(-1);
        if (n < 0) return no(-4);
        if (n > 30) return no(-6);
        for (int pair = 0; pair < 4; pair++) {
            int x = pair / 2;
            int y = pair % 2;
            boolean aMoves = cost(a, b, 1 - x, y, n, true) < cost(a, b, x, y, n, true);
            boolean bMoves = cost(a, b, x, 1 - y, n, false) < cost(a, b, x, y, n, false);
            if (!aMoves && !bMoves) return 10 * x + y;
        }
        return -9;
    }

    long mud(int r, int p, int n, int t, int part) {
        if (noMan(r) || noPlace(p)) return LONGS - no(-1);
        if (n < 0 || t < 2) return LONGS - no(-4);
        if (n > 7 || t > 20) return LONGS - no(-6);
        if (part < 0 || part > 1) return LONGS - no(-2);
        BigInteger above = BigInteger.ZERO;
        for (int course = 0; course < 1 << n; course++) {
            World w = now.copy();
            BigInteger weight = BigInteger.ONE;
            for (int d = 0; d < n; d++) {
                boolean muddy = (course >> d & 1) == 1;
                w.dayPasses(muddy);
                weight = weight.multiply(BigInteger.valueOf(muddy ? 1 : t - 1));
            }
            if (w.men.get(r).at == p) above = above.add(weight);
        }
        return fraction(above, BigInteger.valueOf(t).pow(n), part);
    }

    private static long fraction(BigInteger above, BigInteger below, int part) {
        BigInteger by = above.gcd(below);
        return (part == 0 ? above : below).divide(by).longValueExact();
    }

    long mean(int part) {
        if (part < 0 || part > 1) return LONGS - no(-2);
        int men = Math.max(1, now.men.size());
        return fraction(BigInteger.valueOf(count(4)), BigInteger.valueOf(men), part);
    }

    int whatWanted(int r, int what) {
        if (noMan(r)) return no(-1);
        if (what < 0 || what > 1) return no(-2);
        int bits = 0;
        for (int c = 0; c < (what == 0 ? 8 : 6); c++) {
            World w = now.copy();
            if (what == 0) w.men.get(r).wants = c;
            else w.men.get(r).kind = c;
            int[][] at = w.course(16);
            boolean so = true;
            for (int d = 0; d < row.size(); d++) {
                so &= row.get(d) == at[d][r];
            }
            bits |= so ? 1 << c : 0;
        }
        return bits;
    }

    int row(int v) {
        if (v < 0) return no(-4);
        if (v > 99 || row.size() == 16) return no(-6);
        row.add(v);
        return row.size();
    }

    int judge() {
        int answer = -9;
        for (int i = row.size() - 1; i >= 0; i--) {
            if (i >= now.men.size() || now.men.get(i).at != row.get(i)) answer = i;
        }
        row.clear();
        return answer;
    }

    int clear() {
        int had = row.size();
        row.clear();
        return had;
    }

    private long seed;

    private int draw(int below) {
        seed = (seed * 1664525L + 1013904223L) & 0xffffffffL;
        return (int) ((seed & 0x7fffffffL) / 256 % below);
    }

    int lots(int n, int z, int what) {
        if (n < 1) return no(-4);
        if (n > 20) return no(-6);
        if (what < 0 || what > 1) return no(-2);
        seed = z & 0xffffffffL;
        int sum = 0;
        for (int i = 0; i < n; i++) {
            World w = now.copy();
            for (Man m : w.men) {
                m.at = draw(8);
                m.shoes = draw(5);
            }
            w = w.after(10);
            sum += what == 0 ? w.total() : Integer.bitCount(w.there());
        }
        return sum;
    }

    int image() {
        image = now.copy();
        return now.day;
    }

    int on() {
        if (image == null) return no(-3);
        now = image.copy();
        return now.day;
    }

    int count(int what) {
        int shoes = 0;
        int worn = 0;
        for (Man m : now.men) {
            shoes += m.shoes;
            worn += m.worn;
        }
        if (what >= 0 && what <= 7) {
            return new int[] {now.men.size(), now.day, now.roads.size(), now.there(), shoes, worn, row.size(),
                letters.length()}[what];
        }
        return what >= 11 && what <= 16 ? refused[what - 10] : -9;
    }
}
