/** A county of places, roads and riders whose iron wears down from what they want to what they say. */
public final class ShodForTheRoad {
    private static final int PLACES = 8;
    private static final int MOST_RIDERS = 6;
    private static final int MOST_SHOES = 4;
    private static final int MOST_WORN = 99;
    private static final int MOST_FIGURE = 9;
    private static final int LAST_DAY = 999;
    private static final int MOST_DAYS = 60;
    private static final int FEW_DAYS = 30;
    private static final int MOST_TRUE_DAYS = 99;
    private static final int REST_DAYS = 5;
    private static final int LOT_DAYS = 10;
    private static final int MOST_LOTS = 20;
    private static final int MOST_MUD_DAYS = 7;
    private static final int MOST_MUD_ODDS = 20;
    private static final int MOST_LETTERS = 96;
    private static final int LAST_LETTER = 255;
    private static final int MOST_IN_ROW = 16;
    private static final int LAST_IN_ROW = 99;
    private static final int NO_WAY = 9;
    private static final int TOO_LATE = MOST_DAYS + 1;

    private static final int KINDS = 6;
    private static final int RIDER = 0;
    private static final int BISHOP = 1;
    private static final int NEPHEW = 2;
    private static final int MARE = 3;
    private static final int PILGRIM = 4;
    private static final int FOX_HUNTER = 5;

    private static final int NONE = -9;
    private static final int NOBODY = -1;
    private static final int OTHER = -2;
    private static final int STATE = -3;
    private static final int BELOW = -4;
    private static final int ROOM = -6;
    private static final int REFUSAL_KINDS = 6;
    private static final int FIRST_REFUSAL_COUNT = 11;
    private static final int ALL_BUT_SIGN = 0x7fffffff;
    private static final long LONG_REFUSAL = 4000000000000000000L;
    private static final int FAULT_OF_LETTER = -1000;
    private static final int FAULT_OF_STATEMENT = -2000;

    private final County now = new County();
    private final County kept = new County();
    private final County thought = new County();
    private final Roads thoughtRoads = new Roads();
    private final Horseman mind = new Horseman();
    private final Horseman otherMind = new Horseman();
    private final Telling telling = new Telling();
    private final int[] rowNumbers = new int[MOST_IN_ROW];
    private final int[] refusals = new int[REFUSAL_KINDS + 1];
    private final int[] riderBits = new int[PLACES];
    private final long[] chances = new long[PLACES];
    private final long[] laterChances = new long[PLACES];
    private int rowLength;
    private boolean hasImage;

    public ShodForTheRoad() {
    }

    public int letter(int c) {
        if (c < 0) {
            return refuse(BELOW);
        }
        if (c > LAST_LETTER || telling.isFull()) {
            return refuse(ROOM);
        }
        return telling.add(c);
    }

    public int county() {
        thought.becomes(now);
        int answer = telling.tellTo(thought);
        if (answer >= 0) {
            now.becomes(thought);
        }
        telling.forget();
        return answer;
    }

    public int rider(int rider, int what) {
        if (!now.hasRider(rider)) {
            return refuse(NOBODY);
        }
        Horseman one = now.riders[rider];
        switch (what) {
            case 0: return one.kind;
            case 1: return one.figure;
            case 2: return one.goal;
            case 3: return one.says;
            case 4: return one.at;
            case 5: return one.shoes;
            case 6: return one.worn;
            case 7: return one.daysForShoe();
            default: return refuse(OTHER);
        }
    }

    public int steps(int place, int other) {
        if (!isPlace(place) || !isPlace(other)) {
            return refuse(NOBODY);
        }
        return now.net.stepsBetween(place, other);
    }

    public int pulls(int rider, int place) {
        if (!now.hasRider(rider) || !isPlace(place)) {
            return refuse(NOBODY);
        }
        return now.riders[rider].pullOf(now.net, place);
    }

    public int roads(int place, int other) {
        if (!now.changeRoad(place, other)) {
            return refuse(NOBODY);
        }
        return now.net.joins(place, other) ? 1 : 0;
    }

    public int shod(int rider) {
        if (!now.shoeAnew(rider)) {
            return refuse(NOBODY);
        }
        return now.riders[rider].shoes;
    }

    public int wants(int rider, int place) {
        if (!now.hasRider(rider) || !isPlace(place)) {
            return refuse(NOBODY);
        }
        int before = now.riders[rider].goal;
        now.setGoal(rider, place);
        return before;
    }

    public int stands(int rider, int place) {
        if (!now.hasRider(rider) || !isPlace(place)) {
            return refuse(NOBODY);
        }
        int before = now.riders[rider].at;
        now.setAt(rider, place);
        return before;
    }

    public int turn(int rider, int kind, int figure) {
        if (!now.hasRider(rider)) {
            return refuse(NOBODY);
        }
        if (!isBelow(kind, KINDS)) {
            return refuse(OTHER);
        }
        if (figure < 0) {
            return refuse(BELOW);
        }
        if (figure > MOST_FIGURE) {
            return refuse(ROOM);
        }
        Horseman one = now.riders[rider];
        int before = 10 * one.kind + one.figure;
        one.kind = kind;
        one.figure = figure;
        return before;
    }

    public int days(int n) {
        if (n < 1) {
            return refuse(BELOW);
        }
        if (!now.passDays(n)) {
            return refuse(ROOM);
        }
        return Integer.bitCount(now.arrivedBits());
    }

    public int riderThen(int rider, int n, int what) {
        if (!now.hasRider(rider)) {
            return refuse(NOBODY);
        }
        int refusal = refusalOfNumber(n, 0, MOST_DAYS);
        if (refusal != 0) {
            return refuse(refusal);
        }
        if (!isBelow(what, 2)) {
            return refuse(OTHER);
        }
        thinkOf(rider);
        mind.rideDays(now.net, n);
        return what == 0 ? mind.at : mind.shoes;
    }

    public int comes(int rider, int place) {
        if (!now.hasRider(rider) || !isPlace(place)) {
            return refuse(NOBODY);
        }
        return dayOrNone(comesNow(rider, place));
    }

    public int first(int place) {
        if (!isPlace(place)) {
            return refuse(NOBODY);
        }
        int best = NONE;
        int soonest = TOO_LATE;
        for (int i = 0; i < now.riderCount; i++) {
            int day = comesNow(i, place);
            if (day < soonest) {
                soonest = day;
                best = i;
            }
        }
        return best;
    }

    public int rests(int rider) {
        if (!now.hasRider(rider)) {
            return refuse(NOBODY);
        }
        thinkOf(rider);
        int since = 0;
        for (int day = 0; day <= MOST_DAYS + REST_DAYS; day++) {
            if (day - since == REST_DAYS) {
                return since;
            }
            int before = mind.at;
            mind.rideDay(now.net);
            if (mind.at != before) {
                since = day + 1;
            }
        }
        return NONE;
    }

    public int meet(int one, int other, int what) {
        if (!now.hasRider(one) || !now.hasRider(other) || one == other) {
            return refuse(NOBODY);
        }
        if (!isBelow(what, 2)) {
            return refuse(OTHER);
        }
        thinkOf(one);
        otherMind.becomes(now.riders[other]);
        for (int day = 0; day <= MOST_DAYS; day++) {
            if (mind.at == otherMind.at) {
                return what == 0 ? day : mind.at;
            }
            mind.rideDay(now.net);
            otherMind.rideDay(now.net);
        }
        return NONE;
    }

    public int arrived() {
        long daysOfAll = -1L;
        for (int i = 0; i < now.riderCount; i++) {
            thinkOf(i);
            daysOfAll &= mindDaysWhereHeSays();
        }
        for (int day = 0; day <= MOST_DAYS; day++) {
            if ((daysOfAll >> day & 1) == 1) {
                return day;
            }
        }
        return NONE;
    }

    public int shoe(int rider, int place, int what) {
        if (!now.hasRider(rider) || !isPlace(place)) {
            return refuse(NOBODY);
        }
        if (!isBelow(what, 2)) {
            return refuse(OTHER);
        }
        int best = NONE;
        int soonest = TOO_LATE;
        for (int shoes = 0; shoes <= MOST_SHOES; shoes++) {
            thinkOf(rider);
            mind.shoes = shoes;
            int day = mind.daysUntilAt(now.net, place);
            if (day < soonest) {
                soonest = day;
                best = shoes;
            }
        }
        return what == 0 ? best : dayOrNone(soonest);
    }

    public int wish(int rider, int place) {
        if (!now.hasRider(rider) || !isPlace(place)) {
            return refuse(NOBODY);
        }
        int best = NONE;
        int soonest = comesNow(rider, place);
        for (int goal = 0; goal < PLACES; goal++) {
            thinkOf(rider);
            mind.goal = goal;
            int day = mind.daysUntilAt(now.net, place);
            if (day < soonest) {
                soonest = day;
                best = goal;
            }
        }
        return best;
    }

    public int road(int rider, int place) {
        if (!now.hasRider(rider) || !isPlace(place)) {
            return refuse(NOBODY);
        }
        int best = NONE;
        int soonest = comesNow(rider, place);
        for (int a = 0; a < PLACES; a++) {
            for (int b = a + 1; b < PLACES; b++) {
                int day = now.net.joins(a, b) ? TOO_LATE : comesWithChange(rider, place, a, b);
                if (day < soonest) {
                    soonest = day;
                    best = 10 * a + b;
                }
            }
        }
        return best;
    }

    public int cut(int rider, int place) {
        if (!now.hasRider(rider) || !isPlace(place)) {
            return refuse(NOBODY);
        }
        if (comesNow(rider, place) == TOO_LATE) {
            return NONE;
        }
        for (int a = 0; a < PLACES; a++) {
            for (int b = a + 1; b < PLACES; b++) {
                if (now.net.joins(a, b) && comesWithChange(rider, place, a, b) == TOO_LATE) {
                    return 10 * a + b;
                }
            }
        }
        return NONE;
    }

    public int inn(int n, int what) {
        int refusal = refusalOfNumber(n, 0, FEW_DAYS);
        if (refusal != 0) {
            return refuse(refusal);
        }
        if (!isBelow(what, 2)) {
            return refuse(OTHER);
        }
        noteGuests(n);
        int best = 0;
        int most = 0;
        for (int place = 0; place < PLACES; place++) {
            int guests = Integer.bitCount(riderBits[place]);
            if (guests > most) {
                most = guests;
                best = place;
            }
        }
        return what == 0 ? best : most;
    }

    public int busiest() {
        int best = 0;
        for (int place = 1; place < PLACES; place++) {
            if (Integer.bitCount(now.net.joined[place]) > Integer.bitCount(now.net.joined[best])) {
                best = place;
            }
        }
        return best;
    }

    public int near(int place) {
        if (!isPlace(place)) {
            return refuse(NOBODY);
        }
        return now.net.joined[place];
    }

    public int apart(int what) {
        switch (what) {
            case 0: return now.net.mostSteps();
            case 1: return now.net.farBits();
            case 2: return now.honestBits();
            case 3: return now.lostBits();
            default: return refuse(OTHER);
        }
    }

    public int tired() {
        int best = NONE;
        int most = -1;
        for (int i = 0; i < now.riderCount; i++) {
            if (now.riders[i].worn > most) {
                most = now.riders[i].worn;
                best = i;
            }
        }
        return best;
    }

    public int truly(int rider) {
        if (!now.hasRider(rider)) {
            return refuse(NOBODY);
        }
        thinkOf(rider);
        for (int day = 0; day <= MOST_TRUE_DAYS; day++) {
            if (mind.shoes == 0) {
                return day;
            }
            mind.wearIron();
        }
        return NONE;
    }

    public int total(int n) {
        int refusal = refusalOfNumber(n, 0, MOST_DAYS);
        if (refusal != 0) {
            return refuse(refusal);
        }
        return totalWithBare(NONE, n);
    }

    public int bare(int n) {
        int refusal = refusalOfNumber(n, 0, FEW_DAYS);
        if (refusal != 0) {
            return refuse(refusal);
        }
        int best = NONE;
        int least = totalWithBare(NONE, n);
        for (int i = 0; i < now.riderCount; i++) {
            int sum = totalWithBare(i, n);
            if (sum < least) {
                least = sum;
                best = i;
            }
        }
        return best;
    }

    public int two(int a, int b, int n) {
        if (!now.hasRider(a) || !now.hasRider(b) || a == b) {
            return refuse(NOBODY);
        }
        int refusal = refusalOfNumber(n, 0, FEW_DAYS);
        if (refusal != 0) {
            return refuse(refusal);
        }
        for (int one = 0; one <= 1; one++) {
            for (int other = 0; other <= 1; other++) {
                boolean oneKeeps = costOfChoice(a, one, n) <= costOfChoice(a, 1 - one, n);
                boolean otherKeeps = costOfChoice(b, other, n) <= costOfChoice(b, 1 - other, n);
                if (oneKeeps && otherKeeps) {
                    return 10 * one + other;
                }
            }
        }
        return NONE;
    }

    public long mud(int rider, int place, int n, int t, int part) {
        if (!now.hasRider(rider) || !isPlace(place)) {
            return refuseLong(NOBODY);
        }
        if (n < 0 || t < 2) {
            return refuseLong(BELOW);
        }
        if (n > MOST_MUD_DAYS || t > MOST_MUD_ODDS) {
            return refuseLong(ROOM);
        }
        if (!isBelow(part, 2)) {
            return refuseLong(OTHER);
        }
        long all = 1;
        startChances(rider);
        for (int day = 0; day < n; day++) {
            mind.wearIron();
            spreadChances(t);
            all *= t;
        }
        return partOfFraction(chances[place], all, part);
    }

    public long mean(int part) {
        if (!isBelow(part, 2)) {
            return refuseLong(OTHER);
        }
        return partOfFraction(now.allShoes(), now.riderCount, part);
    }

    public int whatWanted(int rider, int what) {
        if (!now.hasRider(rider)) {
            return refuse(NOBODY);
        }
        if (!isBelow(what, 2)) {
            return refuse(OTHER);
        }
        int choices = what == 0 ? PLACES : KINDS;
        int bits = 0;
        for (int choice = 0; choice < choices; choice++) {
            thinkOf(rider);
            if (what == 0) {
                mind.goal = choice;
            } else {
                mind.kind = choice;
            }
            if (mindFollowsRow()) {
                bits |= 1 << choice;
            }
        }
        return bits;
    }

    public int row(int v) {
        if (v < 0) {
            return refuse(BELOW);
        }
        if (v > LAST_IN_ROW || rowLength >= MOST_IN_ROW) {
            return refuse(ROOM);
        }
        rowNumbers[rowLength] = v;
        rowLength++;
        return rowLength;
    }

    public int judge() {
        int answer = firstWrongInRow();
        rowLength = 0;
        return answer;
    }

    public int clear() {
        int before = rowLength;
        rowLength = 0;
        return before;
    }

    public int lots(int n, int z, int what) {
        int refusal = refusalOfNumber(n, 1, MOST_LOTS);
        if (refusal != 0) {
            return refuse(refusal);
        }
        if (!isBelow(what, 2)) {
            return refuse(OTHER);
        }
        int seed = z;
        int sum = 0;
        for (int lot = 0; lot < n; lot++) {
            for (int i = 0; i < now.riderCount; i++) {
                thinkOf(i);
                seed = nextSeed(seed);
                mind.at = drawn(seed, PLACES);
                seed = nextSeed(seed);
                mind.shoes = drawn(seed, MOST_SHOES + 1);
                mind.rideDays(now.net, LOT_DAYS);
                if (what == 0) {
                    sum += mind.stepsToGo(now.net);
                } else if (mind.isWhereHeSays()) {
                    sum++;
                }
            }
        }
        return sum;
    }

    public int image() {
        kept.becomes(now);
        hasImage = true;
        return now.day;
    }

    public int on() {
        if (!hasImage) {
            return refuse(STATE);
        }
        now.becomes(kept);
        return now.day;
    }

    public int count(int what) {
        switch (what) {
            case 0: return now.riderCount;
            case 1: return now.day;
            case 2: return now.net.roadCount();
            case 3: return now.arrivedBits();
            case 4: return now.allShoes();
            case 5: return now.allWorn();
            case 6: return rowLength;
            case 7: return telling.length;
            default: return refusalCount(what);
        }
    }

    private int refusalCount(int what) {
        if (what < FIRST_REFUSAL_COUNT || what >= FIRST_REFUSAL_COUNT + REFUSAL_KINDS) {
            return NONE;
        }
        return refusals[what - FIRST_REFUSAL_COUNT + 1];
    }

    private int refuse(int number) {
        if (number < 0 && number >= -REFUSAL_KINDS) {
            refusals[-number]++;
        }
        return number;
    }

    private long refuseLong(int number) {
        return LONG_REFUSAL - refuse(number);
    }

    private static int refusalOfNumber(int n, int least, int greatest) {
        if (n < least) {
            return BELOW;
        }
        return n > greatest ? ROOM : 0;
    }

    private static boolean isBelow(int number, int bound) {
        return number >= 0 && number < bound;
    }

    private static boolean isPlace(int place) {
        return place >= 0 && place < PLACES;
    }

    private static int dayOrNone(int day) {
        return day > MOST_DAYS ? NONE : day;
    }

    private void thinkOf(int rider) {
        if (now.hasRider(rider)) {
            mind.becomes(now.riders[rider]);
        }
    }

    private int comesNow(int rider, int place) {
        thinkOf(rider);
        return mind.daysUntilAt(now.net, place);
    }

    private int comesWithChange(int rider, int place, int a, int b) {
        thoughtRoads.becomes(now.net);
        thoughtRoads.change(a, b);
        thinkOf(rider);
        return mind.daysUntilAt(thoughtRoads, place);
    }

    /** A bit for each of the days 0 to 60 on which he is at what he says. */
    private long mindDaysWhereHeSays() {
        long bits = 0;
        for (int day = 0; day <= MOST_DAYS; day++) {
            if (mind.isWhereHeSays()) {
                bits |= 1L << day;
            }
            mind.rideDay(now.net);
        }
        return bits;
    }

    private void noteGuests(int n) {
        for (int place = 0; place < PLACES; place++) {
            riderBits[place] = 0;
        }
        for (int i = 0; i < now.riderCount; i++) {
            thinkOf(i);
            for (int day = 0; day <= n; day++) {
                if (isPlace(mind.at)) {
                    riderBits[mind.at] |= 1 << i;
                }
                mind.rideDay(now.net);
            }
        }
    }

    private int totalWithBare(int bareRider, int n) {
        int sum = 0;
        for (int i = 0; i < now.riderCount; i++) {
            thinkOf(i);
            if (i == bareRider) {
                mind.shoes = 0;
            }
            mind.rideDays(now.net, n);
            sum += mind.stepsToGo(now.net);
        }
        return sum;
    }

    private int costOfChoice(int rider, int choice, int n) {
        thinkOf(rider);
        if (choice == 1) {
            mind.shoeAnew();
        }
        mind.rideDays(now.net, n);
        return mind.stepsToGo(now.net) + choice;
    }

    private void startChances(int rider) {
        thinkOf(rider);
        for (int place = 0; place < PLACES; place++) {
            chances[place] = place == mind.at ? 1 : 0;
        }
    }

    // Mud keeps him where he is but not his iron: SHOES are the same wherever he may be.
    private void spreadChances(int odds) {
        for (int place = 0; place < PLACES; place++) {
            laterChances[place] = chances[place];
        }
        for (int place = 0; place < PLACES; place++) {
            int next = mind.nextFrom(now.net, place);
            if (isPlace(next)) {
                laterChances[next] += chances[place] * (odds - 1);
            }
        }
        for (int place = 0; place < PLACES; place++) {
            chances[place] = laterChances[place];
        }
    }

    private boolean mindFollowsRow() {
        for (int day = 0; day < rowLength; day++) {
            if (rowNumbers[day] != mind.at) {
                return false;
            }
            mind.rideDay(now.net);
        }
        return true;
    }

    private int firstWrongInRow() {
        for (int i = 0; i < rowLength; i++) {
            if (!now.hasRider(i) || now.riders[i].at != rowNumbers[i]) {
                return i;
            }
        }
        return NONE;
    }

    private static long partOfFraction(long above, long below, int part) {
        if (above <= 0 || below <= 0) {
            return part == 0 ? 0 : 1;
        }
        long divisor = greatestDivisor(above, below);
        return (part == 0 ? above : below) / divisor;
    }

    private static long greatestDivisor(long a, long b) {
        long greater = a;
        long lesser = b;
        // Euclid halves the numbers within two rounds, so 128 rounds end every pair of longs.
        for (int round = 0; round < 128 && lesser > 0; round++) {
            long rest = greater % lesser;
            greater = lesser;
            lesser = rest;
        }
        return greater > 0 ? greater : 1;
    }

    private static int nextSeed(int seed) {
        return seed * 1664525 + 1013904223;
    }

    private static int drawn(int seed, int bound) {
        return bound > 0 ? (seed & ALL_BUT_SIGN) / 256 % bound : 0;
    }

    private static int shoesOfKind(int kind) {
        switch (kind) {
            case RIDER: return MOST_SHOES;
            case BISHOP: return 1;
            case NEPHEW: return MOST_SHOES - 1;
            case PILGRIM: return MOST_SHOES / 2;
            case FOX_HUNTER: return MOST_SHOES - 1;
            default: return 0;
        }
    }

    private static int daysOfKind(int kind, int figure) {
        int ofRider = figure / 3 + 1;
        int ofNephew = ofRider / 2 + 1;
        switch (kind) {
            case RIDER: return ofRider;
            case BISHOP: return ofRider;
            case NEPHEW: return ofNephew;
            case PILGRIM: return 2 * ofRider;
            case FOX_HUNTER: return ofNephew + 1;
            default: return 0;
        }
    }

    private static int kindOfLetter(int sign) {
        switch (sign) {
            case 'r': return RIDER;
            case 'b': return BISHOP;
            case 'u': return NEPHEW;
            case 'm': return MARE;
            case 'p': return PILGRIM;
            case 'x': return FOX_HUNTER;
            default: return NONE;
        }
    }

    /** Roads among places, with all steps reckoned anew whenever a road changes. */
    private static final class Roads {
        final int[] joined = new int[PLACES];
        final int[] stepTable = new int[PLACES * PLACES];

        Roads() {
            reckonSteps();
        }

        void becomes(Roads other) {
            System.arraycopy(other.joined, 0, joined, 0, PLACES);
            System.arraycopy(other.stepTable, 0, stepTable, 0, PLACES * PLACES);
        }

        boolean joins(int place, int other) {
            return isPlace(place) && isPlace(other) && (joined[place] >> other & 1) == 1;
        }

        int stepsBetween(int place, int other) {
            if (place < 0 || place >= PLACES || other < 0 || other >= PLACES) {
                return NO_WAY;
            }
            return stepTable[place * PLACES + other];
        }

        void change(int place, int other) {
            if (isPlace(place) && isPlace(other) && place != other) {
                joined[place] ^= 1 << other;
                joined[other] ^= 1 << place;
                reckonSteps();
            }
        }

        int roadCount() {
            int ends = 0;
            for (int place = 0; place < PLACES; place++) {
                ends += Integer.bitCount(joined[place]);
            }
            return ends / 2;
        }

        int mostSteps() {
            int most = 0;
            for (int i = 0; i < PLACES * PLACES; i++) {
                if (stepTable[i] != NO_WAY) {
                    most = Math.max(most, stepTable[i]);
                }
            }
            return most;
        }

        int farBits() {
            int bits = 0;
            for (int place = 0; place < PLACES; place++) {
                if (stepsBetween(0, place) == NO_WAY) {
                    bits |= 1 << place;
                }
            }
            return bits;
        }

        // The longest way has 7 steps, so what goes over a missing road (9 or more) never shortens one.
        private void reckonSteps() {
            for (int a = 0; a < PLACES; a++) {
                for (int b = 0; b < PLACES; b++) {
                    int direct = joins(a, b) ? 1 : NO_WAY;
                    stepTable[a * PLACES + b] = a == b ? 0 : direct;
                }
            }
            for (int over = 0; over < PLACES; over++) {
                for (int a = 0; a < PLACES; a++) {
                    for (int b = 0; b < PLACES; b++) {
                        int round = stepTable[a * PLACES + over] + stepTable[over * PLACES + b];
                        stepTable[a * PLACES + b] = Math.min(stepTable[a * PLACES + b], round);
                    }
                }
            }
        }
    }

    /** One rider; riders never hinder one another, so each can be thought on alone. */
    private static final class Horseman {
        int kind;
        int figure;
        int goal;
        int says;
        int at;
        int shoes;
        int worn;

        Horseman() {
        }

        void becomes(Horseman other) {
            kind = other.kind;
            figure = other.figure;
            goal = other.goal;
            says = other.says;
            at = other.at;
            shoes = other.shoes;
            worn = other.worn;
        }

        void shoeAnew() {
            shoes = shoesOfKind(kind);
            worn = 0;
        }

        int daysForShoe() {
            return daysOfKind(kind, figure);
        }

        void wearIron() {
            worn = Math.min(worn + 1, MOST_WORN);
            int each = daysForShoe();
            if (each > 0 && worn % each == 0 && shoes > 0) {
                shoes--;
            }
        }

        int pullOf(Roads net, int place) {
            return shoes * net.stepsBetween(place, goal)
                + (MOST_SHOES - shoes) * net.stepsBetween(place, says);
        }

        int nextFrom(Roads net, int place) {
            int best = place;
            int least = pullOf(net, place);
            for (int next = 0; next < PLACES; next++) {
                if (net.joins(place, next) && pullOf(net, next) < least) {
                    least = pullOf(net, next);
                    best = next;
                }
            }
            return best;
        }

        void rideDay(Roads net) {
            wearIron();
            at = nextFrom(net, at);
        }

        void rideDays(Roads net, int n) {
            for (int day = 0; day < n; day++) {
                rideDay(net);
            }
        }

        int daysUntilAt(Roads net, int place) {
            for (int day = 0; day <= MOST_DAYS; day++) {
                if (at == place) {
                    return day;
                }
                rideDay(net);
            }
            return TOO_LATE;
        }

        int stepsToGo(Roads net) {
            return net.stepsBetween(at, says);
        }

        boolean isWhereHeSays() {
            return at == says;
        }
    }

    /** All that an image keeps. */
    private static final class County {
        final Roads net = new Roads();
        final Horseman[] riders = new Horseman[MOST_RIDERS];
        int riderCount;
        int day;

        County() {
            for (int i = 0; i < MOST_RIDERS; i++) {
                riders[i] = new Horseman();
            }
        }

        void becomes(County other) {
            net.becomes(other.net);
            for (int i = 0; i < MOST_RIDERS; i++) {
                riders[i].becomes(other.riders[i]);
            }
            riderCount = other.riderCount;
            day = other.day;
        }

        boolean hasRider(int rider) {
            return rider >= 0 && rider < riderCount && rider < MOST_RIDERS;
        }

        boolean changeRoad(int place, int other) {
            if (!isPlace(place) || !isPlace(other) || place == other) {
                return false;
            }
            net.change(place, other);
            return true;
        }

        boolean addRider(int kind, int figure, int goal, int says, int at) {
            if (riderCount >= MOST_RIDERS || !isPlace(goal) || !isPlace(says) || !isPlace(at)) {
                return false;
            }
            Horseman one = riders[riderCount];
            one.kind = kind;
            one.figure = figure;
            one.goal = goal;
            one.says = says;
            one.at = at;
            one.shoeAnew();
            riderCount++;
            return true;
        }

        boolean shoeAnew(int rider) {
            if (!hasRider(rider)) {
                return false;
            }
            riders[rider].shoeAnew();
            return true;
        }

        boolean setGoal(int rider, int place) {
            if (!hasRider(rider) || !isPlace(place)) {
                return false;
            }
            riders[rider].goal = place;
            return true;
        }

        boolean setAt(int rider, int place) {
            if (!hasRider(rider) || !isPlace(place)) {
                return false;
            }
            riders[rider].at = place;
            return true;
        }

        boolean passDays(int n) {
            if (n < 1 || n > MOST_DAYS || day + n > LAST_DAY) {
                return false;
            }
            day += n;
            for (int i = 0; i < riderCount; i++) {
                for (int gone = 0; gone < n; gone++) {
                    riders[i].rideDay(net);
                }
            }
            return true;
        }

        int arrivedBits() {
            int bits = 0;
            for (int i = 0; i < riderCount; i++) {
                if (riders[i].isWhereHeSays()) {
                    bits |= 1 << i;
                }
            }
            return bits;
        }

        int honestBits() {
            int bits = 0;
            for (int i = 0; i < riderCount; i++) {
                if (riders[i].goal == riders[i].says) {
                    bits |= 1 << i;
                }
            }
            return bits;
        }

        int lostBits() {
            int bits = 0;
            for (int i = 0; i < riderCount; i++) {
                if (riders[i].stepsToGo(net) == NO_WAY) {
                    bits |= 1 << i;
                }
            }
            return bits;
        }

        int allShoes() {
            int sum = 0;
            for (int i = 0; i < riderCount; i++) {
                sum += riders[i].shoes;
            }
            return sum;
        }

        int allWorn() {
            int sum = 0;
            for (int i = 0; i < riderCount; i++) {
                sum += riders[i].worn;
            }
            return sum;
        }
    }

    /** The letters of a county, and what they say to one. */
    private static final class Telling {
        final int[] signs = new int[MOST_LETTERS];
        int length;

        Telling() {
        }

        boolean isFull() {
            return length >= MOST_LETTERS;
        }

        int add(int sign) {
            if (!isFull()) {
                signs[length] = sign;
                length++;
            }
            return length;
        }

        void forget() {
            length = 0;
        }

        /** How many statements came, or the fault; behind a fault the county told to is of no use. */
        int tellTo(County county) {
            int unfit = firstUnfit();
            if (unfit >= 0) {
                return FAULT_OF_LETTER - unfit;
            }
            int statements = 0;
            for (int start = 0; start < length; start += lettersOf(signAt(start)) + 1) {
                if (!tellStatement(county, start)) {
                    return FAULT_OF_STATEMENT - start;
                }
                statements++;
            }
            return statements;
        }

        private int signAt(int place) {
            return isBelow(place, length) && place < MOST_LETTERS ? signs[place] : NONE;
        }

        private int digitAt(int place) {
            return signAt(place) - '0';
        }

        /** How many letters stand ahead of the semicolon; 0, if no statement begins so. */
        private static int lettersOf(int sign) {
            switch (sign) {
                case 'r': return 3;
                case 'h': return 6;
                case 's': return 2;
                case 'w': return 3;
                case 'a': return 3;
                case 'd': return 3;
                default: return 0;
            }
        }

        private int firstUnfit() {
            int start = 0;
            for (int place = 0; place < length; place++) {
                if (!fits(start, place)) {
                    return place;
                }
                if (signAt(place) == ';') {
                    start = place + 1;
                }
            }
            return length > 0 && start == length ? NONE : length;
        }

        private boolean fits(int start, int place) {
            int opening = signAt(start);
            int sign = signAt(place);
            int behind = place - start;
            if (behind == 0) {
                return lettersOf(opening) > 0;
            }
            if (behind == lettersOf(opening)) {
                return sign == ';';
            }
            if (behind == 1 && opening == 'h') {
                return kindOfLetter(sign) >= 0;
            }
            return sign >= '0' && sign <= '9';
        }

        private boolean tellStatement(County county, int start) {
            int former = digitAt(start + 1);
            int latter = digitAt(start + 2);
            switch (signAt(start)) {
                case 'r': return county.changeRoad(former, latter);
                case 'h': return tellRider(county, start);
                case 's': return county.shoeAnew(former);
                case 'w': return county.setGoal(former, latter);
                case 'a': return county.setAt(former, latter);
                case 'd': return county.passDays(10 * former + latter);
                default: return false;
            }
        }

        private boolean tellRider(County county, int start) {
            int kind = kindOfLetter(signAt(start + 1));
            return county.addRider(kind, digitAt(start + 2), digitAt(start + 3),
                digitAt(start + 4), digitAt(start + 5));
        }
    }
}
