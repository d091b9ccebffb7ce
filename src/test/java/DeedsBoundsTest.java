/** Bounds of promises 9 to 15, and those that "Terms" names in ==== 2. and ==== 3. for deeds and undoing. */
final class DeedsBoundsTest {
    private static final int LEAST = Integer.MIN_VALUE;
    private static final int MOST = Integer.MAX_VALUE;
    private static final String FULL = "county places 5;way 0 1;way 1 2;way 2 3;way 3 4;kin at 0;kin at 0 strength 0;"
        + "kin at 4;";

    public static void main(String[] args) {
        Check.runAll(DeedsBoundsTest.class);
    }

    // ---- promise 9

    static void promise09_noSuch() {
        int[] none = {-1, 1, 9, 13, 19, 20, 23, 30, 39, 40, 99, 103, 113, 130, 199, 200, LEAST, MOST};
        for (int deed : none) {
            Scenes.refused("hour " + deed, -11, x -> x.hour(deed), Scenes.ALL);
        }
        Scenes.refused("the next of the kin", -11, x -> x.hour(10 + x.count(1)), Scenes.ALL);
        Scenes.refused("the next of the kin goes", -11, x -> x.hour(100 + 10 * x.count(1)), Scenes.ALL);
        Scenes.refused("the next place", -11, x -> x.hour(100 + x.count(0)), Scenes.ALL);
    }

    static void promise09_itIsDown() {
        Scenes.refused("rest", -12, x -> x.hour(0), Scenes.NEW, Scenes.DOWN, Scenes.NO_KIN);
        int[] hours = {10, 11, 100, 101, 110, 111};
        for (int deed : hours) {
            Scenes.refused("hour " + deed, -12, x -> x.hour(deed), Scenes.DOWN);
        }
    }

    static void promise09_notAtOnePlaceNoWay() {
        int[] hours = {10, 11, 12, 100, 102, 111, 120, 122};
        for (int deed : hours) {
            Scenes.refused("hour " + deed, -13, x -> x.hour(deed), Scenes.RICH);
        }
    }

    static void promise09_tooWeakTheLawMay() {
        String text = "county places 2;way 0 1;kin at 0;kin at 0 strength 0;tires:strength;";
        Scenes.refusedIn(text, "to hand it", -14, x -> x.hour(11), 35, 0);
        Scenes.refusedIn(text, "to go", -14, x -> x.hour(111), 35, 0);
        Scenes.refusedIn(text + "may:kin=1;", "by the law", -14, x -> x.hour(101), 35, 0);
    }

    static void promise09_itIsntDownThenOrItIs() {
        BearerKin x = Check.with("county places 1;kin at 0 strength 2;");
        Check.due("from 2", x.hour(0), 1);
        Check.due("from 1", x.hour(0), 0);
        Check.due("it is done all the same", new long[] {x.count(7), x.count(8), x.count(5)}, 2, 2, 1);
        Check.due("no more hours", x.hour(0), -12);
        Check.due("hours stay", x.count(7), 2);
        BearerKin y = Check.with("county places 1;kin at 0;kin at 0 strength 1;");
        Check.due("handed to one of 1", y.hour(11), 0);
        Check.due("who bears it", y.count(2), 1);
        BearerKin z = Check.with("county places 1;kin at 0;kin at 0 strength 2;");
        Check.due("handed to one of 2", z.hour(11), 1);
    }

    static void promise09_eachHourCanBeUndone() {
        BearerKin x = Check.with(FULL);
        int[] hours = {0, 101, 100, 111, 110, 123, 0};
        x.meal(0);
        for (int deed : hours) {
            x.meal(0);
            x.meal(1);
            int[] ahead = {x.kin(0, 0), x.kin(1, 0), x.kin(2, 0), x.count(4), x.count(7)};
            Check.due("hour " + deed, x.hour(deed), 1);
            Check.due("hours", x.count(7), ahead[4] + 1);
            x.undo(1);
            Check.due("undone " + deed, new long[] {x.kin(0, 0), x.kin(1, 0), x.kin(2, 0), x.count(4), x.count(7)},
                ahead[0], ahead[1], ahead[2], ahead[3], ahead[4]);
            x.hour(deed);
        }
    }

    // ---- promise 10

    static void promise10_noSuchKin() {
        int[] none = {-1, 3, 20, LEAST, MOST};
        for (int p : none) {
            Scenes.refused("kin " + p, -11, x -> x.meal(p), Scenes.ALL);
        }
        Scenes.refused("the next", -11, x -> x.meal(x.count(1)), Scenes.ALL);
    }

    static void promise10_eachStrength() {
        for (int s = 0; s <= 3; s++) {
            BearerKin x = Check.with("county places 1;kin at 0;kin at 0;kin at 0 strength " + s + ";");
            Check.due("it had", x.meal(2), s);
            Check.due("it has", x.kin(2, 2), 3);
            Check.due("others", x.count(4), 9);
            Check.due("no hour; it can be undone", new long[] {x.count(7), x.count(8)}, 0, 1);
            x.undo(1);
            Check.due("undone", x.kin(2, 2), s);
        }
    }

    static void promise10_whenItIsDown() {
        BearerKin x = Scenes.make(Scenes.DOWN);
        Check.due("another one", x.meal(1), 3);
        Check.due("still down", x.count(5), 1);
        Check.due("the bearer", x.meal(0), 0);
        Check.due("up again", x.count(5), 0);
        Check.due("hours again", x.hour(0), 1);
    }

    // ---- promise 11

    static void promise11_0To9() {
        int[] none = {-1, 10, LEAST, MOST};
        for (int n : none) {
            Scenes.refused("weather " + n, -11, x -> x.weather(n), Scenes.ALL);
        }
        BearerKin x = new BearerKin();
        Check.due("0, as it was", x.weather(0), 0);
        Check.due("9", x.weather(9), 0);
        Check.due("it is", x.count(6), 9);
        Check.due("0", x.weather(0), 9);
        Check.due("it is", x.count(6), 0);
        Check.due("each can be undone, also without kin, down", x.count(8), 3);
        Check.due("no hours", x.count(7), 0);
    }

    // ---- promise 12

    static void promise12_nBelow1() {
        int[] none = {0, -1, LEAST};
        for (int n : none) {
            Scenes.refused("undo " + n, -3, x -> x.undo(n), Scenes.ALL);
        }
    }

    static void promise12_moreThanCanBe() {
        Scenes.refused("one more", -3, x -> x.undo(x.count(8) + 1), Scenes.ALL);
        Scenes.refused("11", -3, x -> x.undo(11), Scenes.ALL);
        Scenes.refused("the most", -3, x -> x.undo(MOST), Scenes.ALL);
        Scenes.refused("ten of fewer", -3, x -> x.undo(10), Scenes.NEW, Scenes.DOWN, Scenes.NO_KIN);
    }

    static void promise12_upToAllThatCanBe() {
        BearerKin x = Scenes.make(Scenes.RICH);
        Check.due("ten of ten", x.undo(10), 0);
        // the first hour is forgotten: strengths 2 3 2 behind it, weather 3
        Check.due("strengths, weather, hours, bearer", new long[] {x.kin(0, 2), x.kin(1, 2), x.kin(2, 2), x.count(6),
            x.count(7), x.count(2)}, 2, 3, 2, 3, 1, 0);
        BearerKin y = Scenes.make(Scenes.RICH);
        Check.due("nine of ten", y.undo(9), 1);
        Check.due("weather", y.count(6), 4);
        Check.due("the last", y.undo(1), 0);
        Check.due("weather", y.count(6), 3);
    }

    static void term2_tenAtMostEldestAreForgotten() {
        for (int calls = 9; calls <= 21; calls++) {
            BearerKin x = Check.with("county places 1;kin at 0;tires:strength;");
            for (int i = 1; i <= calls; i++) {
                x.hour(0);
                Check.due("can be undone", x.count(8), Math.min(10, i));
            }
            int most = Math.min(10, calls);
            Check.due("one more", x.undo(most + 1), -3);
            Check.due("all that can be", x.undo(most), 0);
            Check.due("hours left", x.count(7), calls - most);
        }
    }

    static void term2_theLatestFirst() {
        BearerKin x = new BearerKin();
        for (int w = 1; w <= 9; w++) {
            x.weather(w);
        }
        for (int w = 8; w >= 0; w--) {
            Check.due("how many still", x.undo(1), w);
            Check.due("weather", x.count(6), w);
        }
        Check.due("none", x.undo(1), -3);
        x.weather(5);
        Check.due("a new one", x.count(8), 1);
        Check.due("undone", x.undo(1), 0);
        Check.due("it was", x.count(6), 0);
    }

    static void term2_eachAsAWhole() {
        BearerKin x = Check.with("county places 2;way 0 1;kin at 0;kin at 0 strength 1;bears 1;tires:strength;");
        Check.fill(x, 0, 10, 101, 20, 21, 37, 0, 111, 11);
        Check.due("all are done", x.perform(0), 8);
        Check.due("bearer, where, strengths, weather, hours", new long[] {x.count(2), x.count(3), x.count(4), x.count(6),
            x.count(7)}, 1, 1, 6, 7, 5);
        Check.due("one can be undone", x.count(8), 1);
        x.undo(1);
        Check.due("as it was", new long[] {x.count(2), x.count(3), x.count(4), x.count(6), x.count(7)}, 1, 0, 4, 0, 0);
        Check.due("kin 0 is where it was", x.kin(0, 0), 0);
        x.weather(3);
        x.hour(10);
        x.hour(101);
        x.century(5, 40);
        Check.due("a century is one", x.undo(1), 3);
        Check.due("as it was", new long[] {x.count(2), x.count(3), x.count(4), x.count(6), x.count(7)}, 0, 1, 4, 3, 2);
        Check.due("and what was ahead of it", x.undo(3), 0);
        Check.due("as it was", new long[] {x.count(2), x.count(3), x.count(4), x.count(6), x.count(7)}, 1, 0, 4, 0, 0);
    }

    static void term2_callsThatDidNoneCantBeUndone() {
        BearerKin x = Scenes.make(Scenes.NO_KIN);
        x.hour(0);
        x.meal(0);
        x.weather(10);
        x.century(0, 0);
        x.numbers(2, 0, 0);
        x.perform(2);
        Check.fill(x, 2, 0, 31);
        x.perform(2);
        Check.due("only the weather ahead", x.count(8), 1);
        // of seed 0 the first draw is 0: a rest, which can't be without kin
        Check.due("a century of none", x.century(0, 1), 0);
        Check.due("only the weather ahead", x.count(8), 1);
    }

    // ---- promise 13

    private static long[] judged(BearerKin x, int tray) {
        return new long[] {x.judge(tray, 0), x.judge(tray, 1), x.judge(tray, 2), x.judge(tray, 3)};
    }

    static void promise13_noSuchTray() {
        int[] none = {-1, 4, LEAST, MOST};
        for (int tray : none) {
            Scenes.refused("tray " + tray, -2, x -> x.judge(tray, 0), Scenes.ALL);
        }
    }

    static void promise13_noSuchWhat() {
        int[] none = {-1, 4, LEAST, MOST};
        for (int what : none) {
            Scenes.refused("what " + what, -2, x -> x.judge(0, what), Scenes.ALL);
            Scenes.refused("what " + what + " ahead of a missing tray", -2, x -> x.judge(3, what), Scenes.ALL);
        }
    }

    static void promise13_theTrayIsMissing() {
        for (int what = 0; what <= 3; what++) {
            int of = what;
            Scenes.refused("what " + what, -6, x -> x.judge(3, of), Scenes.ALL);
        }
        Scenes.refused("the first tray", -6, x -> x.judge(0, 0), Scenes.NEW);
    }

    static void promise13_noDeeds() {
        BearerKin x = Check.with("county places 3;kin at 2 strength 1;");
        x.numbers(3, 0, 0);
        Check.due("none", judged(x, 3), -1, 0, 2, 1);
        BearerKin y = Scenes.make(Scenes.DOWN);
        Check.due("none, down", judged(y, 0), -1, 0, 0, 0);
        BearerKin z = new BearerKin();
        z.numbers(0, 0, 0);
        Check.due("none, without kin", judged(z, 0), -1, 0, -1, 0);
    }

    static void promise13_theFirstPlaceThatCantBe() {
        BearerKin x = Check.with("county places 2;way 0 1;kin at 0;kin at 1 strength 0;tires:strength;");
        long[] deeds = new long[40];
        Check.fill(x, 0, deeds);
        Check.due("forty rests", judged(x, 0), -1, 0, 0, 3);
        x.write(0, 39, 111);
        Check.due("the last", judged(x, 0), 39, 3, 0, 3);
        x.write(0, 20, 101);
        Check.due("the last, at another place", judged(x, 0), 39, 3, 1, 3);
        x.write(0, 38, 11);
        Check.due("the last but one", judged(x, 0), 38, 4, 1, 3);
        x.write(0, 0, 200);
        Check.due("the first", judged(x, 0), 0, 1, 0, 3);
        Check.due("nothing is done", new long[] {x.count(3), x.count(7), x.count(8)}, 0, 0, 0);
    }

    static void promise13_withoutKin() {
        BearerKin x = Scenes.make(Scenes.NO_KIN);
        Check.due("a rest", judged(x, 0), 0, 2, -1, 0);
        Check.due("a weather, then a rest", judged(x, 1), 1, 2, -1, 0);
        Check.fill(x, 2, 39);
        Check.due("a weather", judged(x, 2), -1, 0, -1, 0);
    }

    static void promise13_downOnTheWay() {
        BearerKin x = Check.with("county places 1;kin at 0 strength 2;");
        Check.fill(x, 0, 0, 0);
        Check.due("down behind the last", judged(x, 0), -1, 0, 0, 0);
        Check.fill(x, 0, 0, 0, 0);
        Check.due("down ahead of the last", judged(x, 0), 2, 2, 0, 0);
        Check.fill(x, 0, 0, 0, 20, 0);
        Check.due("a meal brings it up", judged(x, 0), -1, 0, 0, 2);
        Check.fill(x, 0, 0, 0, 35, 0);
        Check.due("a weather doesn't", judged(x, 0), 3, 2, 0, 0);
    }

    static void term2_numbersOfDeeds() {
        for (int deed = -12; deed <= 212; deed++) {
            BearerKin x = Check.with(FULL);
            Check.fill(x, 0, deed);
            int why = deed >= 20 && deed <= 22 || deed >= 30 && deed <= 39 ? 0 : x.why(deed);
            Check.due("deed " + deed, new long[] {x.judge(0, 0), x.judge(0, 1)}, why == 0 ? -1 : 0, why);
            Check.due("performed " + deed, x.perform(0), why == 0 ? 1 : 0);
        }
        long[] wide = {1L << 32, 10 + (1L << 32), -1L << 32, Long.MIN_VALUE, Long.MAX_VALUE, 256, 65536, -246};
        for (long deed : wide) {
            BearerKin x = Check.with(FULL);
            Check.fill(x, 0, deed);
            Check.due("deed " + deed, new long[] {x.judge(0, 0), x.judge(0, 1)}, 0, 1);
            Check.due("performed " + deed, x.perform(0), 0);
        }
    }

    static void term2_mealsAndWeathersAsDeeds() {
        BearerKin x = Check.with(FULL);
        int[] meals = {20, 21, 22};
        for (int deed : meals) {
            Check.fill(x, 0, deed);
            x.perform(0);
        }
        Check.due("all have 3", x.count(4), 9);
        for (int deed = 39; deed >= 30; deed--) {
            Check.fill(x, 0, deed);
            x.perform(0);
            Check.due("weather", x.count(6), deed - 30);
        }
        int[] none = {19, 23, 29, 40};
        for (int deed : none) {
            Check.fill(x, 0, deed);
            Check.due("none " + deed, x.perform(0), 0);
        }
        Check.due("no hours", x.count(7), 0);
    }

    // ---- promise 14

    static void promise14_noSuchTray() {
        int[] none = {-1, 4, LEAST, MOST};
        for (int tray : none) {
            Scenes.refused("tray " + tray, -2, x -> x.perform(tray), Scenes.ALL);
        }
    }

    static void promise14_theTrayIsMissing() {
        Scenes.refused("the last tray", -6, x -> x.perform(3), Scenes.ALL);
        Scenes.refused("the first tray", -6, x -> x.perform(0), Scenes.NEW);
    }

    static void promise14_noneCanBe() {
        Scenes.refused("no deeds", 0, x -> x.perform(0), Scenes.DOWN);
        Scenes.refused("the first can't be", 0, x -> x.perform(0), Scenes.NO_KIN);
        Scenes.refused("rests, when it is down", 0, x -> x.perform(1), Scenes.DOWN);
    }

    static void promise14_oneToForty() {
        BearerKin x = Check.with("county places 1;kin at 0;tires:strength;");
        Check.fill(x, 0, 0);
        Check.due("one", x.perform(0), 1);
        Check.fill(x, 0, new long[40]);
        Check.due("forty", x.perform(0), 40);
        Check.due("hours", x.count(7), 41);
        Check.due("two calls", x.count(8), 2);
        x.write(0, 39, 11);
        Check.due("the last can't be", x.perform(0), 39);
        Check.due("hours", x.count(7), 80);
        x.write(0, 1, 11);
        Check.due("the second can't be", x.perform(0), 1);
        Check.due("hours", x.count(7), 81);
        x.undo(1);
        Check.due("undone", x.count(7), 80);
    }

    static void promise14_tillItIsDown() {
        BearerKin x = Check.with("county places 1;kin at 0;");
        Check.fill(x, 0, 0, 0, 0, 0);
        Check.due("three", x.perform(0), 3);
        Check.due("down", x.count(5), 1);
        Check.due("none more", x.perform(0), 0);
        Check.due("one can be undone", x.count(8), 1);
    }

    // ---- promise 15

    static void promise15_howManyTimes() {
        int[] none = {0, -1, 41, LEAST, MOST};
        for (int times : none) {
            Scenes.refused("times " + times, -3, x -> x.century(77, times), Scenes.ALL);
        }
    }

    /** The draws once more, by numbers that don't wrap around but are cut. */
    private static final class Draws {
        private long x;

        Draws(int seed) {
            x = seed & 0xffffffffL;
        }

        int modulo(int n) {
            x = (1103515245L * x + 12345L) & 0xffffffffL;
            return (int) ((x >> 16) % n);
        }
    }

    /** The deeds of a century as calls: how many could be. */
    private static int calls(BearerKin y, int seed, int times) {
        Draws draws = new Draws(seed);
        int could = 0;
        for (int i = 0; i < times; i++) {
            long answer;
            switch (draws.modulo(6)) {
                case 0:
                    answer = y.hour(0);
                    break;
                case 1:
                    answer = y.hour(10 + draws.modulo(3));
                    break;
                case 2:
                case 3:
                    int p = draws.modulo(3);
                    answer = y.hour(100 + 10 * p + draws.modulo(5));
                    break;
                case 4:
                    answer = y.meal(draws.modulo(3));
                    break;
                default:
                    answer = y.weather(draws.modulo(10));
                    break;
            }
            could += answer >= 0 ? 1 : 0;
        }
        return could;
    }

    static void promise15_oneToFortyOfEachSeed() {
        int[] seeds = {0, 1, -1, 2, 12345, -12345, LEAST, MOST, LEAST + 1, MOST - 1, 1 << 16, -65537};
        String[] texts = {"county places 1;", "county places 1;kin at 0;", "county places 5;way 0 1;way 1 2;way 0 2;"
            + "way 2 3;way 3 4;kin at 0;kin at 1;kin at 0;", "county places 2;way 0 1;kin at 1;kin at 1;bears 1;"
            + "tires:strength+weather-4;may:1=1;"};
        for (int seed : seeds) {
            for (String text : texts) {
                int[] many = {1, 2, 39, 40};
                for (int times : many) {
                    BearerKin x = Check.with(text);
                    BearerKin y = Check.with(text);
                    String what = seed + " " + times + " times, " + text;
                    int could = calls(y, seed, times);
                    Check.due(what, x.century(seed, times), could);
                    for (int i = 2; i <= 7; i++) {
                        Check.due(what + ", count " + i, x.count(i), y.count(i));
                    }
                    for (int p = 0; p < 3; p++) {
                        Check.due(what + ", where is " + p, x.kin(p, 0), y.kin(p, 0));
                    }
                    Check.due(what + ", can be undone", x.count(8), could == 0 ? 0 : 1);
                }
            }
        }
    }

    static void promise15_firstDrawsByHand() {
        // 0 becomes 12345, which is 0 behind 16 bits: a rest
        BearerKin x = Check.with("county places 1;kin at 0;");
        Check.due("a rest", x.century(0, 1), 1);
        Check.due("one hour, strength 2", new long[] {x.count(7), x.count(4)}, 1, 2);
        // -1 becomes -1103502900, which is 3191464396 without a sign, by 65536 48697, by 6 a rest of 1: to hand it;
        // that one is nobody else's, so it can't be
        BearerKin y = Check.with("county places 1;kin at 0;");
        Check.due("to hand it", y.century(-1, 1), 0);
        Check.due("nothing is done", new long[] {y.count(7), y.count(4), y.count(8)}, 0, 3, 0);
    }
}
