/** What can be seen of an object by calls that change nothing, so that a test can say that nothing changed. */
final class Seen {
    private Seen() {
    }

    /** All but the refusals. */
    static String of(ShodForTheRoad x) {
        StringBuilder s = new StringBuilder("counts");
        for (int what = 0; what <= 7; what++) {
            s.append(' ').append(x.count(what));
        }
        s.append(" near");
        for (int place = 0; place < 8; place++) {
            s.append(' ').append(x.near(place));
        }
        for (int rider = 0; rider < x.count(0); rider++) {
            s.append(" rider");
            for (int what = 0; what <= 7; what++) {
                s.append(' ').append(x.rider(rider, what));
            }
        }
        return s.toString();
    }

    /** How many refusals of -1, -2, .. -6 there were. */
    static String refusals(ShodForTheRoad x) {
        return refusals(x, 0);
    }

    /** The same, with one of the number more. */
    static String refusals(ShodForTheRoad x, int number) {
        StringBuilder s = new StringBuilder("refusals");
        for (int i = 1; i <= 6; i++) {
            s.append(' ').append(x.count(10 + i) + (number == -i ? 1 : 0));
        }
        return s.toString();
    }
}
