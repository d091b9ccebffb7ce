/** Promises 9 to 15: deeds. */
final class DeedsTest {
    private static final String PAIR = "county places 2;way 0 1;kin at 0;kin at 0 strength 0;";

    public static void main(String[] args) {
        hours();
        meals();
        weathers();
        undoing();
        judging();
        performing();
        centuries();
        Check.end("DeedsTest");
    }

    private static void hours() {
        BearerKin x = Check.with(PAIR);
        Check.due("9 no such", x.hour(12), -11);
        Check.due("9 a meal is no hour", x.hour(20), -11);
        Check.due("9 no way", x.hour(100), -13);
        Check.due("9 too weak", x.hour(11), -14);
        Check.due("9 nothing done", x.count(7), 0);
        Check.due("9 it goes", x.hour(101), 1);
        Check.due("9 where it is", x.count(3), 1);
        Check.due("9 strengths", new long[] {x.kin(0, 2), x.kin(1, 2)}, 2, 1);
        Check.due("9 rest", x.hour(0), 1);
        Check.due("9 then it is down", x.hour(100), 0);
        Check.due("9 hours", x.count(7), 3);
        Check.due("9 it is down", x.count(5), 1);
        Check.due("9 no more hours", x.hour(0), -12);
        Check.due("9 no such ahead of down", x.hour(12), -11);
        Check.due("9 hours stay", x.count(7), 3);
        Check.due("9 the other one", x.kin(1, 2), 3);
        BearerKin y = Check.with("county places 1;kin at 0;kin at 0 strength 1;");
        Check.due("9 handed to one that is down then", y.hour(11), 0);
        Check.due("9 the bearer", y.count(2), 1);
    }

    private static void meals() {
        BearerKin x = Check.with(PAIR);
        Check.due("10 it had", x.meal(1), 0);
        Check.due("10 it has", x.kin(1, 2), 3);
        Check.due("10 once more", x.meal(1), 3);
        Check.due("10 no such", x.meal(2), -11);
        Check.due("10 below", x.meal(-1), -11);
        Check.due("10 both can be undone", x.count(8), 2);
        Check.due("10 no hours", x.count(7), 0);
        BearerKin y = Check.with("county places 1;kin at 0 strength 0;");
        Check.due("10 down", y.meal(0), 0);
        Check.due("10 up again", y.count(5), 0);
    }

    private static void weathers() {
        BearerKin x = Check.with("county places 1;kin at 0;weather 4;tires: strength-weather;");
        Check.due("11 it was", x.weather(9), 4);
        Check.due("11 it is", x.count(6), 9);
        Check.due("11 the law by it", x.by(0, 0), 0);
        Check.due("11 above", x.weather(10), -11);
        Check.due("11 below", x.weather(-1), -11);
        Check.due("11 the same", x.weather(9), 9);
        Check.due("11 both can be undone", x.count(8), 2);
        Check.due("11 least", x.weather(0), 9);
        Check.due("11 the law by it", x.by(0, 0), 3);
    }

    private static void undoing() {
        BearerKin x = Check.with("county places 2;way 0 1;kin at 0;kin at 0;");
        Check.due("12 nothing", x.undo(1), -3);
        x.hour(11);
        x.hour(111);
        x.meal(0);
        x.weather(7);
        Check.due("12 not 0", x.undo(0), -3);
        Check.due("12 not so many", x.undo(5), -3);
        Check.due("12 below", x.undo(-1), -3);
        Check.due("12 two", x.undo(2), 2);
        Check.due("12 weather", x.count(6), 0);
        Check.due("12 where it is", x.count(3), 1);
        Check.due("12 all", x.undo(2), 0);
        Check.due("12 bearer", x.count(2), 0);
        Check.due("12 where it is", x.count(3), 0);
        Check.due("12 hours", x.count(7), 0);
        Check.due("12 strengths", x.count(4), 6);
        for (int i = 0; i < 13; i++) {
            x.weather(i % 10);
        }
        Check.due("12 ten at most", x.count(8), 10);
        Check.due("12 eleven", x.undo(11), -3);
        Check.due("12 ten", x.undo(10), 0);
        Check.due("12 eldest are forgotten", x.count(6), 2);
        x.hour(99);
        x.meal(5);
        x.weather(11);
        Check.due("12 refused calls can't be undone", x.count(8), 0);
    }

    private static long[] judged(BearerKin x, int tray) {
        return new long[] {x.judge(tray, 0), x.judge(tray, 1), x.judge(tray, 2), x.judge(tray, 3)};
    }

    private static void judging() {
        BearerKin x = Check.with("county places 3;way 0 1;kin at 0;kin at 0;");
        Check.due("13 no tray", x.judge(4, 0), -2);
        Check.due("13 below", x.judge(-1, 0), -2);
        Check.due("13 what", x.judge(0, 4), -2);
        Check.due("13 what below", x.judge(0, -1), -2);
        Check.due("13 missing", x.judge(0, 0), -6);
        x.numbers(0, 0, 0);
        Check.due("13 no deeds", judged(x, 0), -1, 0, 0, 3);
        Check.fill(x, 0, 101, 0, 20, 35);
        Check.due("13 all can be", judged(x, 0), -1, 0, 1, 3);
        Check.fill(x, 0, 101, 11, 0);
        Check.due("13 not at one place", judged(x, 0), 1, 3, 1, 2);
        Check.fill(x, 0, 0, 0, 0, 0, 0);
        Check.due("13 down", judged(x, 0), 3, 2, 0, 0);
        Check.fill(x, 0, 11, 102);
        Check.due("13 no way", judged(x, 0), 1, 3, 0, 2);
        Check.fill(x, 0, 1);
        Check.due("13 no deed", judged(x, 0), 0, 1, 0, 3);
        for (long none : new long[] {-1, 9, 12, 19, 23, 29, 40, 99, 103, 120, 199, 200}) {
            Check.fill(x, 0, none);
            Check.due("13 none such " + none, judged(x, 0), 0, 1, 0, 3);
        }
        Check.fill(x, 0, 30, 39, 20, 21, 0, 10);
        Check.due("13 some that can be", judged(x, 0), 5, 3, 0, 2);
        Check.fill(x, 0, 22);
        Check.due("13 a meal for none", judged(x, 0), 0, 1, 0, 3);
        Check.fill(x, 0, 1L << 32);
        Check.due("13 a number of 64 bits", judged(x, 0), 0, 1, 0, 3);
        Check.due("13 nothing was done", x.count(7), 0);
        Check.due("13 nothing to undo", x.count(8), 0);
        BearerKin y = new BearerKin();
        Check.fill(y, 3, 33, 0);
        Check.due("13 without kin", judged(y, 3), 1, 2, -1, 0);
        BearerKin z = Check.with("county places 1;kin at 0;tires: strength-weather;");
        Check.fill(z, 0, 0, 31, 0, 32, 0, 20, 30, 0);
        Check.due("13 by the weather told", judged(z, 0), -1, 0, 0, 3);
        Check.due("13 the weather stays", z.count(6), 0);
    }

    private static void performing() {
        BearerKin x = Check.with("county places 3;way 0 1;kin at 0;kin at 0;");
        Check.due("14 no tray", x.perform(4), -2);
        Check.due("14 missing", x.perform(3), -6);
        Check.fill(x, 0, 101, 31, 20, 11, 0);
        Check.due("14 till one can't be", x.perform(0), 3);
        Check.due("14 where", x.count(3), 1);
        Check.due("14 weather", x.count(6), 1);
        Check.due("14 hours", x.count(7), 1);
        Check.due("14 as one", x.count(8), 1);
        Check.due("14 undone as a whole", x.undo(1), 0);
        Check.due("14 where it was", x.count(3), 0);
        Check.due("14 weather", x.count(6), 0);
        Check.due("14 hours", x.count(7), 0);
        Check.fill(x, 0, 12, 0);
        Check.due("14 none", x.perform(0), 0);
        Check.due("14 none to undo", x.count(8), 0);
        x.numbers(0, 0, 0);
        Check.due("14 empty", x.perform(0), 0);
        Check.due("14 none to undo", x.count(8), 0);
    }

    private static int seed;

    private static int draw(int modulo) {
        seed = 1103515245 * seed + 12345;
        return (seed >>> 16) % modulo;
    }

    private static long drawn(BearerKin x) {
        int kind = draw(6);
        if (kind == 0) {
            return x.hour(0);
        }
        if (kind == 1) {
            return x.hour(10 + draw(3));
        }
        if (kind < 4) {
            int p = draw(3);
            int k = draw(5);
            return x.hour(100 + 10 * p + k);
        }
        return kind == 4 ? x.meal(draw(3)) : x.weather(draw(10));
    }

    private static void centuries() {
        String text = "county places 4;way 0 1;way 1 2;way 2 0;kin at 0;kin at 0;"
            + "tires: if bears=1 then strength-1 else strength+1 end;";
        int[] seeds = {0, 1, -1, 77, 123456789, Integer.MIN_VALUE, Integer.MAX_VALUE};
        for (int s : seeds) {
            for (int times : new int[] {1, 7, 40}) {
                BearerKin x = Check.with(text);
                BearerKin y = Check.with(text);
                seed = s;
                int could = 0;
                for (int i = 0; i < times; i++) {
                    could += drawn(y) >= 0 ? 1 : 0;
                }
                String what = "15 century " + s + " " + times;
                Check.due(what, x.century(s, times), could);
                for (int i = 2; i < 8; i++) {
                    Check.due(what + " count " + i, x.count(i), y.count(i));
                }
                Check.due(what + " as one", x.count(8), could > 0 ? 1 : 0);
                if (could > 0) {
                    x.undo(1);
                    Check.due(what + " undone", x.count(4), 6);
                    Check.due(what + " undone hours", x.count(7), 0);
                }
            }
        }
        BearerKin x = Check.with(text);
        Check.due("15 no times", x.century(1, 0), -3);
        Check.due("15 below", x.century(1, -1), -3);
        Check.due("15 above", x.century(1, 41), -3);
        Check.due("15 nothing was done", x.count(8), 0);
    }
}
