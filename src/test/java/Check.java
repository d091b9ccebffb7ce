import java.lang.reflect.Method;
import java.util.Arrays;
import java.util.Comparator;

/** What the promise tests share: due answers, texts onto the tape, filled trays. */
final class Check {
    private static int wrong;
    private static int made;
    /** The test that runs, in front of what it prints. */
    private static String test = "";

    private Check() {
    }

    static void due(String what, long got, long want) {
        made++;
        if (got != want) {
            wrong++;
            System.out.println(test + what + ": answered " + got + ", due is " + want);
        }
    }

    /** Several answers of like calls, one behind the other. */
    static void due(String what, long[] got, long... want) {
        due(what + ", how many", got.length, want.length);
        for (int i = 0; i < got.length && i < want.length; i++) {
            due(what + " [" + i + "]", got[i], want[i]);
        }
    }

    static void end(String name) {
        System.out.println(name + ": " + made + " checks, " + wrong + " wrong");
        if (wrong != 0) {
            System.exit(1);
        }
    }

    /** Runs each test of a class, a method that is named by its term or by its promise. */
    static void runAll(Class<?> tests) {
        Method[] methods = tests.getDeclaredMethods();
        Arrays.sort(methods, Comparator.comparing(Method::getName));
        int ran = 0;
        for (Method m : methods) {
            if (m.getName().matches("(term|promise)\\d.*")) {
                test = m.getName() + ": ";
                int madeAhead = made;
                try {
                    m.invoke(null);
                } catch (ReflectiveOperationException e) {
                    wrong++;
                    System.out.println(test + "it failed by " + e.getCause());
                }
                if (made == madeAhead) {
                    wrong++;
                    System.out.println(test + "it checks nothing");
                }
                ran++;
            }
        }
        test = "";
        System.out.println(tests.getSimpleName() + ": " + ran + " tests of bounds");
        end(tests.getSimpleName());
    }

    static void feed(BearerKin x, String text) {
        StringBuilder padded = new StringBuilder(text);
        while (padded.length() % 20 != 0) {
            padded.append(' ');
        }
        for (int i = 0; i < padded.length(); i += 20) {
            int[] ints = new int[5];
            for (int j = 0; j < 20; j++) {
                ints[j / 4] = ints[j / 4] << 8 | padded.charAt(i + j);
            }
            x.feed(ints[0], ints[1], ints[2], ints[3], ints[4]);
        }
    }

    static int tell(BearerKin x, String text) {
        feed(x, text);
        return x.county(text.length());
    }

    /** A new object with a county that must be without a fault. */
    static BearerKin with(String text) {
        BearerKin x = new BearerKin();
        int lines = tell(x, text);
        if (lines < 0) {
            due("a county: " + text + " at " + x.fault(1), lines, 1);
        }
        return x;
    }

    static void fill(BearerKin x, int tray, long... numbers) {
        x.numbers(tray, 3, numbers.length);
        for (int i = 0; i < numbers.length; i++) {
            x.write(tray, i, numbers[i]);
        }
    }
}
