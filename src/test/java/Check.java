/** What the promise tests share: due answers, texts onto the tape, filled trays. */
final class Check {
    private static int wrong;
    private static int made;

    private Check() {
    }

    static void due(String what, long got, long want) {
        made++;
        if (got != want) {
            wrong++;
            System.out.println(what + ": answered " + got + ", due is " + want);
        }
    }

    /** Several answers of like calls, one behind the other. */
    static void due(String what, long[] got, long... want) {
        due(what + ", how many", got.length, want.length);
        for (int i = 0; i < got.length && i < want.length; i++) {
            due(what + " [" + i + "]", got[i], want[i]);
        }
    }

    static void end(String name) {
        System.out.println(name + ": " + made + " checks, " + wrong + " wrong");
        if (wrong != 0) {
            System.exit(1);
        }
    }

    static void feed(BearerKin x, String text) {
        StringBuilder padded = new StringBuilder(text);
        while (padded.length() % 20 != 0) {
            padded.append(' ');
        }
        for (int i = 0; i < padded.length(); i += 20) {
            int[] ints = new int[5];
            for (int j = 0; j < 20; j++) {
                ints[j / 4] = ints[j / 4] << 8 | padded.charAt(i + j);
            }
            x.feed(ints[0], ints[1], ints[2], ints[3], ints[4]);
        }
    }

    static int tell(BearerKin x, String text) {
        feed(x, text);
        return x.county(text.length());
    }

    /** A new object with a county that must be without a fault. */
    static BearerKin with(String text) {
        BearerKin x = new BearerKin();
        int lines = tell(x, text);
        if (lines < 0) {
            due("a county: " + text + " at " + x.fault(1), lines, 1);
        }
        return x;
    }

    static void fill(BearerKin x, int tray, long... numbers) {
        x.numbers(tray, 3, numbers.length);
        for (int i = 0; i < numbers.length; i++) {
            x.write(tray, i, numbers[i]);
        }
    }
}
