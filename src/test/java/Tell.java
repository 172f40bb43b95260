/** Tells counties to objects, letter by letter. */
final class Tell {
    private Tell() {
    }

    static int to(ShodForTheRoad x, String text) {
        for (int i = 0; i < text.length(); i++) {
            x.letter(text.charAt(i));
        }
        return x.county();
    }

    /** A new object to which all of the texts have come; a text with a fault is the test's own fault. */
    static ShodForTheRoad anew(String... texts) {
        ShodForTheRoad x = new ShodForTheRoad();
        for (String text : texts) {
            if (to(x, text) <= 0) {
                throw new IllegalStateException("no county: " + text);
            }
        }
        return x;
    }

    /** All 28 roads, which fill more than one text. */
    static ShodForTheRoad allRoads() {
        ShodForTheRoad x = new ShodForTheRoad();
        for (int a = 0; a < 8; a++) {
            for (int b = a + 1; b < 8; b++) {
                to(x, "r" + a + b + ";");
            }
        }
        return x;
    }

    static void row(ShodForTheRoad x, int... numbers) {
        x.clear();
        for (int number : numbers) {
            x.row(number);
        }
    }
}
