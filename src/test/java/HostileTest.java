import java.util.Random;

/** No call throws or fails to end, whatever its numbers are, in whatever state; refused calls change nothing. */
final class HostileTest {
    private static final long[] ODD = {0, 1, -1, 2, 3, 4, 5, 8, 9, 10, 11, 12, 13, 19, 20, 22, 23, 29, 30, 39, 40, 41,
        99, 100, 101, 104, 105, 110, 114, 120, 124, 125, 130, 199, 200, -2, -3, -10, 127, 128, 255, 256, 900, 901,
        Integer.MAX_VALUE, Integer.MIN_VALUE, Integer.MAX_VALUE - 1, Integer.MIN_VALUE + 1, Long.MAX_VALUE,
        Long.MIN_VALUE};
    private static final String FULL = "county places 5;way 0 1;way 0 2;way 0 3;way 0 4;way 1 2;way 1 3;way 1 4;way 2 3;"
        + "way 2 4;way 3 4;height 0 3;height 4 9;kin at 0;kin at 0 age 4;kin at 0 age 9;";
    private static final String[] LAWS = {"", "tires: strength+1-bears;may: 1=1;",
        "tires: if bears=1 then strength-1 else strength+1-goes end;may: strength>0 or bears=1;",
        "tires: strength-bears;", "tires: strength-bears*if weather>4 then 1 else 0 end;may: height<9 or from>2;"};

    private final Random random = new Random(5);

    public static void main(String[] args) {
        HostileTest test = new HostileTest();
        for (int run = 0; run < 60; run++) {
            test.drawRun(run);
        }
        test.deepTexts();
        Check.end("HostileTest");
    }

    private int odd() {
        return (int) ODD[random.nextInt(ODD.length)];
    }

    private void drawRun(int run) {
        BearerKin x = new BearerKin();
        if (run % 3 != 0) {
            Check.tell(x, FULL + LAWS[run % LAWS.length]);
        } else if (run % 2 == 0) {
            Check.tell(x, "county places 2;way 0 1;kin at 0;kin at 1;" + LAWS[run % LAWS.length]);
        }
        for (int i = 0; i < 470; i++) {
            if (i % 50 == 49) {
                drawText(x);
            }
            long before = sum(x);
            int name = random.nextInt(38);
            long got = call(x, name);
            boolean asks = name < 5 || name > 15;
            if (got < -1 && asks) {
                Check.due("a refused call changes nothing: " + name, sum(x), before);
            }
        }
    }

    private static long sum(BearerKin x) {
        long sum = 0;
        for (int what = 0; what < 11; what++) {
            sum = sum * 31 + x.count(what);
        }
        return sum;
    }

    private void drawText(BearerKin x) {
        for (int i = random.nextInt(4); i >= 0; i--) {
            x.feed(random.nextInt(), odd(), random.nextInt(), odd(), random.nextInt());
        }
        x.county(x.count(9));
    }

    private long call(BearerKin x, int name) {
        int a = odd();
        int b = odd();
        int c = odd();
        switch (name) {
            case 0: return x.fault(a);
            case 1: return x.place(a, b);
            case 2: return x.kin(a, b);
            case 3: return x.why(a);
            case 4: return x.by(a, b);
            case 5: return x.hour(a);
            case 6: return x.meal(a);
            case 7: return x.weather(a);
            case 8: return x.undo(a);
            case 9: return x.perform(a);
            case 10: return x.century(a, b);
            case 11: return x.image(a);
            case 12: return x.restore(a);
            case 13: return x.feed(a, b, c, a, b);
            case 14: return x.county(a);
            case 15: return x.numbers(a, b, c);
            case 16: return x.judge(a, b);
            case 17: return x.up();
            case 18: return x.keeping(a);
            case 19: return x.rows(a);
            case 20: return x.needed(a);
            case 21: return x.soonest(a, b);
            case 22: return x.way(a, b, c);
            case 23: return x.reach();
            case 24: return x.bearers();
            case 25: return x.stands();
            case 26: return x.seen(a);
            case 27: return x.seenBy(a, b);
            case 28: return x.suspects(a, b);
            case 29: return x.weathers(a);
            case 30: return x.attempt(a);
            case 31: return x.lasts();
            case 32: return x.best();
            case 33: return x.chance(a, b);
            case 34: return x.mean(a, b);
            case 35: return x.write(a, b, ODD[random.nextInt(ODD.length)]);
            case 36: return x.lists(a, b, c);
            default: return x.count(a);
        }
    }

    /** The longest text, of one law that needs the deepest stack, and of one that never closes. */
    private void deepTexts() {
        StringBuilder text = new StringBuilder("county places 1;kin at 0;may:");
        for (int i = 0; i < 6; i++) {
            text.append("1=0 or 1=1 and [");
        }
        text.append("1=1");
        text.append("]]]]]];");
        BearerKin x = new BearerKin();
        Check.due("deep truths", Check.tell(x, text.toString()), 3);
        StringBuilder sums = new StringBuilder("county places 1;kin at 0;tires:");
        for (int i = 0; i < 6; i++) {
            sums.append("0+1*if 1=1 then 0 else 0+1*1+0 end+");
        }
        for (int i = 0; i < 6; i++) {
            sums.append("0+1*if 0=1 or 0=0 and 0<0+1*");
        }
        sums.append('1');
        for (int i = 0; i < 6; i++) {
            sums.append(" then 1 else 2 end");
        }
        sums.append(";");
        Check.due("deep sums", Check.tell(x, sums.toString()), 3);
        Check.due("deep sums told", x.by(0, 0), 1);
        for (String open : new String[] {"(", "[", "not ", "if ", "1+", "1*", "1=1 and ", "1=1 or "}) {
            for (String law : new String[] {"tires:", "may:"}) {
                String start = "county places 1;kin at 0;" + law;
                String whole = start + open.repeat((900 - start.length()) / open.length());
                Check.due("never closed " + law + open, Check.tell(x, whole) < -30 ? 1 : 0, 1);
            }
        }
    }
}
