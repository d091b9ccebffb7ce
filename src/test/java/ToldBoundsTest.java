/** Bounds of promises 25 to 29, 32 and 33, and those that "Terms" names in ==== 3. for sights, tiring and lots. */
final class ToldBoundsTest {
    private static final int LEAST = Integer.MIN_VALUE;
    private static final int MOST = Integer.MAX_VALUE;
    private static final int[] NO_TRAYS = {-1, 4, LEAST, MOST};
    /** Rest or go each hour, for ever. */
    private static final String FREE = "county places 2;way 0 1;kin at 0;tires:3;";

    public static void main(String[] args) {
        Check.runAll(ToldBoundsTest.class);
    }

    private static long[] many(int n, long v) {
        long[] numbers = new long[n];
        java.util.Arrays.fill(numbers, v);
        return numbers;
    }

    // ---- promises 25 to 27: refused calls

    static void promise25_noSuchTray() {
        for (int tray : NO_TRAYS) {
            Scenes.refused("tray " + tray, -2, x -> x.seen(tray), Scenes.ALL);
        }
    }

    static void promise25_theTrayIsMissing() {
        Scenes.refused("tray 3", -6, x -> x.seen(3), Scenes.ALL);
        Scenes.refused("tray 0", -6, x -> x.seen(0), Scenes.NEW);
    }

    static void promise25_not1To8Numbers() {
        int[] none = {0, 9, 10, 40};
        for (int n : none) {
            Scenes.refusedWith(many(n, -1), n + " numbers", -4, x -> x.seen(3), Scenes.ALL);
            Scenes.refusedWith(many(n, 99), n + " numbers ahead of no place", -4, x -> x.seen(3), Scenes.ALL);
        }
    }

    static void promise25_1To8Numbers() {
        for (int n = 1; n <= 8; n++) {
            BearerKin x = Check.with(FREE);
            Check.fill(x, 3, many(n, -1));
            Check.due(n + " not seen", x.seen(3), 1L << n);
            Check.due(n + " as rows", x.rows(n), 1L << n);
            Check.fill(x, 3, many(n, 1));
            Check.due(n + " seen", x.seen(3), 1);
        }
    }

    static void promise25_noPlaceNorNone() {
        long[] none = {-2, 5, 1L << 32, -1L << 32, (1L << 32) - 1, Long.MIN_VALUE, Long.MAX_VALUE};
        for (long k : none) {
            Scenes.refusedWith(new long[] {k}, "place " + k, -3, x -> x.seen(3), Scenes.ALL);
            Scenes.refusedWith(new long[] {0, -1, 0, 0, 0, 0, 0, k}, "the last is " + k, -3, x -> x.seen(3), Scenes.ALL);
        }
        for (int n = 1; n <= 5; n++) {
            BearerKin x = Check.with("county places " + n + ";kin at 0;");
            Check.fill(x, 0, n);
            Check.due("one more than the last place", x.seen(0), -3);
            Check.fill(x, 0, n - 1);
            Check.due("the last place", x.seen(0), n == 1 ? 1 : 0);
            Check.fill(x, 0, -1);
            Check.due("NONE", x.seen(0), 1);
        }
    }

    static void promise25_ofEachSort() {
        for (int sort = 0; sort < 4; sort++) {
            BearerKin x = Check.with(FREE);
            x.numbers(0, sort, 2);
            x.write(0, 0, -1);
            x.write(0, 1, 1);
            Check.due("sort " + sort, x.seen(0), 2);
        }
    }

    static void promise25_downInNone() {
        BearerKin x = Check.with("county places 1;kin at 0;");
        Check.fill(x, 0, 0, 0);
        Check.due("strength 1 behind the last", x.seen(0), 1);
        Check.fill(x, 0, 0, 0, 0);
        Check.due("strength 0 behind the last", x.seen(0), 0);
        Check.fill(x, 0, -1, -1, -1);
        Check.due("also where it isn't seen", x.seen(0), 0);
        Check.due("down now", Scenes.make(Scenes.DOWN).seen(2), 0);
        Check.due("without kin", Scenes.make(Scenes.NO_KIN).seen(0), 0);
    }

    static void promise26_asSeen() {
        for (int tray : NO_TRAYS) {
            Scenes.refused("tray " + tray, -2, x -> x.seenBy(tray, 0), Scenes.ALL);
            Scenes.refused("tray " + tray + " ahead of i", -2, x -> x.seenBy(tray, -1), Scenes.ALL);
        }
        Scenes.refused("missing", -6, x -> x.seenBy(3, 0), Scenes.ALL);
        Scenes.refused("missing, ahead of i", -6, x -> x.seenBy(3, -1), Scenes.ALL);
        Scenes.refusedWith(many(0, 0), "no numbers", -4, x -> x.seenBy(3, 0), Scenes.ALL);
        Scenes.refusedWith(many(9, 0), "nine, ahead of i", -4, x -> x.seenBy(3, -1), Scenes.ALL);
        Scenes.refusedWith(many(1, -2), "no place", -3, x -> x.seenBy(3, 0), Scenes.ALL);
        Scenes.refusedWith(many(1, 5), "no place, ahead of NONE", -3, x -> x.seenBy(3, 1), Scenes.ALL);
    }

    static void promise26_iBelow0() {
        Scenes.refusedWith(many(1, 0), "-1", -3, x -> x.seenBy(3, -1), Scenes.ALL);
        Scenes.refusedWith(many(8, -1), "the least", -3, x -> x.seenBy(3, LEAST), Scenes.ALL);
    }

    static void promise26_notSoMany() {
        for (int n = 1; n <= 8; n++) {
            BearerKin x = Check.with(FREE);
            Check.fill(x, 0, many(n, -1));
            x.write(0, n - 1, 1);
            for (int i = 0; i < n - 1; i++) {
                Check.due("hour " + i, x.seenBy(0, i), 0);
            }
            Check.due("the last of " + n, x.seenBy(0, n - 1), 101);
            Check.due("one more", x.seenBy(0, n), -1);
            Check.due("the most", x.seenBy(0, MOST), -1);
        }
    }

    static void promise26_thereAreNone() {
        BearerKin x = Check.with("county places 2;kin at 0;tires:3;");
        Check.fill(x, 0, 0, 0, 1);
        Check.due("none by the last", new long[] {x.seenBy(0, 0), x.seenBy(0, 2), x.seenBy(0, 3)}, -1, -1, -1);
        Check.due("down", Scenes.make(Scenes.DOWN).seenBy(2, 0), -1);
        Check.due("without kin", Scenes.make(Scenes.NO_KIN).seenBy(0, 0), -1);
    }

    static void promise26_theFirst() {
        // it comes from 0 over 1 or 2 to 3 in two hours
        BearerKin x = Check.with("county places 4;way 0 2;way 2 3;way 0 1;way 1 3;kin at 0;tires:3;");
        Check.fill(x, 0, -1, 3);
        Check.due("two rows", x.seen(0), 2);
        Check.due("over 1", new long[] {x.seenBy(0, 0), x.seenBy(0, 1)}, 101, 103);
        Check.fill(x, 0, 2, 3);
        Check.due("over 2", new long[] {x.seen(0), x.seenBy(0, 0), x.seenBy(0, 1)}, 1, 102, 103);
    }

    static void promise27_asSeen() {
        for (int tray : NO_TRAYS) {
            Scenes.refused("tray " + tray, -2, x -> x.suspects(tray, 0), Scenes.ALL);
            Scenes.refused("tray " + tray + " ahead of i", -2, x -> x.suspects(tray, -1), Scenes.ALL);
        }
        Scenes.refused("missing", -6, x -> x.suspects(3, 0), Scenes.ALL);
        Scenes.refused("missing, ahead of i", -6, x -> x.suspects(3, -1), Scenes.ALL);
        Scenes.refusedWith(many(0, 0), "no numbers, ahead of no such hour", -4, x -> x.suspects(3, 0), Scenes.ALL);
        Scenes.refusedWith(many(9, 0), "nine, ahead of i", -4, x -> x.suspects(3, -1), Scenes.ALL);
        Scenes.refusedWith(many(1, -2), "no place", -3, x -> x.suspects(3, 0), Scenes.ALL);
        Scenes.refusedWith(many(1, 5), "no place, ahead of no such hour", -3, x -> x.suspects(3, 1), Scenes.ALL);
    }

    static void promise27_iBelow0() {
        Scenes.refusedWith(many(1, 0), "-1", -3, x -> x.suspects(3, -1), Scenes.ALL);
        Scenes.refusedWith(many(8, -1), "the least", -3, x -> x.suspects(3, LEAST), Scenes.ALL);
    }

    static void promise27_noSuchHour() {
        for (int n = 1; n <= 8; n++) {
            int one = n;
            Scenes.refusedWith(many(n, 0), "hour " + n, -7, x -> x.suspects(3, one), Scenes.ALL);
            Scenes.refusedWith(many(n, -1), "the most", -7, x -> x.suspects(3, MOST), Scenes.ALL);
            BearerKin x = Check.with(FREE);
            Check.fill(x, 0, many(n, -1));
            Check.due("the first of " + n, x.suspects(0, 0), 1);
            Check.due("the last of " + n, x.suspects(0, n - 1), 1);
        }
    }

    static void promise27_thereAreNone() {
        BearerKin x = Check.with("county places 2;kin at 0;tires:3;");
        Check.fill(x, 0, 0, 1);
        Check.due("none by the last", new long[] {x.suspects(0, 0), x.suspects(0, 1), x.suspects(0, 2)}, 0, 0, -7);
        Check.due("down", Scenes.make(Scenes.DOWN).suspects(2, 0), 0);
        Check.due("without kin", Scenes.make(Scenes.NO_KIN).suspects(0, 0), 0);
    }

    static void promise27_inSomeOfThese() {
        // kin 1 alone may go: seen at 1 in the second hour, it was handed to kin 1 in the first
        BearerKin x = Check.with("county places 2;way 0 1;kin at 0;kin at 0;tires:3;may:kin=1;");
        Check.fill(x, 0, -1, 1);
        Check.due("behind the first, the second", new long[] {x.suspects(0, 0), x.suspects(0, 1)}, 2, 2);
        Check.fill(x, 0, -1, -1);
        Check.due("not seen", new long[] {x.suspects(0, 0), x.suspects(0, 1)}, 3, 3);
    }

    // ---- promises 28 and 29

    static void promise28_noSuchTrayMissing() {
        for (int tray : NO_TRAYS) {
            Scenes.refused("tray " + tray, -2, x -> x.weathers(tray), Scenes.ALL);
            Scenes.refused("tray " + tray, -2, x -> x.attempt(tray), Scenes.ALL);
        }
        Scenes.refused("missing", -6, x -> x.weathers(3), Scenes.ALL);
    }

    static void promise28_not1To8Numbers() {
        int[] none = {0, 9, 40};
        for (int n : none) {
            Scenes.refusedWith(many(n, 0), n + " numbers", -4, x -> x.weathers(3), Scenes.ALL);
            Scenes.refusedWith(many(n, 7), n + " numbers ahead of no strength", -4, x -> x.weathers(3), Scenes.ALL);
        }
        for (int n = 1; n <= 8; n++) {
            BearerKin x = Check.with("county places 1;kin at 0;tires:if weather=7 then strength else strength-1 end;");
            Check.fill(x, 0, many(n, 3));
            Check.due(n + " numbers", x.weathers(0), 1 << 7);
        }
    }

    static void promise28_not0To3() {
        long[] none = {-1, 4, 1L << 32, Long.MIN_VALUE, Long.MAX_VALUE};
        for (long s : none) {
            Scenes.refusedWith(new long[] {s}, "strength " + s, -3, x -> x.weathers(3), Scenes.ALL);
            Scenes.refusedWith(new long[] {3, 3, 3, 3, 3, 3, 3, s}, "the last is " + s, -3, x -> x.weathers(3), Scenes.ALL);
        }
        BearerKin x = Check.with("county places 1;kin at 0;tires:weather;");
        int[] due = {1, 2, 4, 1023 - 7};
        for (int s = 0; s <= 3; s++) {
            Check.fill(x, 0, s);
            Check.due("strength " + s, x.weathers(0), due[s]);
        }
    }

    static void promise28_thereAreNoKin() {
        Scenes.refusedWith(many(1, 0), "no kin", -5, x -> x.weathers(3), Scenes.NEW, Scenes.NO_KIN);
        Scenes.refusedWith(many(8, 3), "no kin", -5, x -> x.weathers(3), Scenes.NEW, Scenes.NO_KIN);
    }

    static void promise28_weathers0To9() {
        BearerKin x = Check.with("county places 1;kin at 0;weather 4;tires:if weather=0 then 1 else if weather=9 then 2 "
            + "else 3 end end;");
        Check.fill(x, 0, 1);
        Check.due("the first", x.weathers(0), 1);
        Check.fill(x, 0, 2);
        Check.due("the last", x.weathers(0), 512);
        Check.fill(x, 0, 3);
        Check.due("others", x.weathers(0), 510);
        Check.fill(x, 0, 0);
        Check.due("none", x.weathers(0), 0);
        Check.due("the weather stays", x.count(6), 4);
    }

    static void term3_onceDownItStaysSoWith0() {
        BearerKin x = Check.with("county places 1;kin at 0;tires:if strength=3 then 0 else 3 end;");
        Check.fill(x, 0, 0, 0, 0);
        Check.due("down from the first on", x.weathers(0), 1023);
        Check.fill(x, 0, 0, 3);
        Check.due("it doesn't get up", x.weathers(0), 0);
        BearerKin y = Check.with("county places 1;kin at 0 strength 0;tires:3;");
        Check.fill(y, 0, 0);
        Check.due("down now", y.weathers(0), 1023);
        Check.fill(y, 0, 3);
        Check.due("it doesn't get up", y.weathers(0), 0);
    }

    static void promise29_asWeathers() {
        Scenes.refused("missing", -6, x -> x.attempt(3), Scenes.ALL);
        Scenes.refusedWith(many(0, 0), "no numbers", -4, x -> x.attempt(3), Scenes.ALL);
        Scenes.refusedWith(many(9, 9), "nine", -4, x -> x.attempt(3), Scenes.ALL);
        Scenes.refusedWith(many(1, -1), "-1", -3, x -> x.attempt(3), Scenes.ALL);
        Scenes.refusedWith(many(8, 4), "4", -3, x -> x.attempt(3), Scenes.ALL);
        Scenes.refusedWith(many(1, 0), "no kin", -5, x -> x.attempt(3), Scenes.NEW, Scenes.NO_KIN);
    }

    static void promise29_thereAreNone() {
        BearerKin x = Check.with("county places 1;kin at 0;");
        Check.fill(x, 0, 3);
        Check.due("none", x.attempt(0), -1);
        Check.fill(x, 0, 2);
        Check.due("all ten, alike by all hours", x.attempt(0), 0);
    }

    static void promise29_oneIsLeft() {
        BearerKin x = Check.with("county places 2;way 0 1;kin at 0;tires:if goes=1 then weather else 3-weather end;");
        Check.fill(x, 0, 3);
        Check.due("weather 0 alone", x.weathers(0), 1);
        Check.due("nothing more is to be known: the first", x.attempt(0), 0);
    }

    static void promise29_theGreatestNumberIsLeast() {
        // rest tells nothing of 3 to 9; to go tells 3, 4 and 5 apart, 6 to 9 not: four of seven
        BearerKin x = Check.with("county places 2;way 0 1;kin at 0;tires:if goes=1 then weather-3 else 3-weather end;");
        Check.fill(x, 0, 0);
        Check.due("3 to 9", x.weathers(0), 1016);
        Check.due("to go", x.attempt(0), 101);
        // all hours tell as much: the first
        BearerKin y = Check.with("county places 2;way 0 1;kin at 0;tires:if weather<5 then 1 else 2 end;");
        Check.fill(y, 0, 1);
        Check.due("0 to 4", y.weathers(0), 31);
        Check.due("the first of like ones", y.attempt(0), 0);
    }

    static void promise29_weather0Too() {
        // a rest tells 0 from 1 and 2, kin 1 going tells 2 from 0 and 1: two of three by each, the first
        BearerKin x = Check.with("county places 2;way 0 1;kin at 0;kin at 0;tires:if kin=0 then if weather<3 then 3 else 0 "
            + "end else if weather<1+goes then 1 else 2 end end;");
        Check.fill(x, 0, 3);
        Check.due("0 to 2", x.weathers(0), 7);
        Check.due("the first", x.attempt(0), 0);
        // a rest tells nothing, kin 1 going tells 0 from the others
        BearerKin y = Check.with("county places 2;way 0 1;kin at 0;kin at 0;tires:if kin=0 then if weather<3 then 3 else 0 "
            + "end else if weather<goes then 1 else 2 end end;");
        Check.fill(y, 0, 3);
        Check.due("kin 1 goes", y.attempt(0), 111);
    }

    static void promise29_asNowIfItCantBe() {
        // by 5 to 9 it may go and has 2 then, by 0 to 4 it can't and has 3 as now; a rest leaves 2
        BearerKin x = Check.with("county places 2;way 0 1;kin at 0;tires:2;may:weather>4;");
        Check.fill(x, 0, 2);
        Check.due("to go", x.attempt(0), 101);
        // strengths are as now by all
        BearerKin y = Check.with("county places 2;way 0 1;kin at 0 strength 2;tires:2;may:weather>4;");
        Check.fill(y, 0, 2);
        Check.due("nothing is told by it", y.attempt(0), 0);
        BearerKin z = Scenes.make(Scenes.DOWN);
        Check.due("down: none can be, the first", z.attempt(2), 0);
    }

    static void promise29_allStrengthsNotTheBearersAlone() {
        // a rest tires kin 1 by the weather, too
        BearerKin x = Check.with("county places 1;kin at 0;kin at 0;kin at 0;tires:if kin=2 then weather else 3 end;");
        Check.fill(x, 0, 3);
        Check.due("all ten", x.weathers(0), 1023);
        Check.due("a rest tells them", x.attempt(0), 0);
        BearerKin y = Check.with("county places 2;way 0 1;kin at 0;kin at 0;"
            + "tires:if kin=1 and goes=1 then weather else 3 end;");
        Check.fill(y, 0, 3);
        Check.due("kin 1 must go", y.attempt(0), 111);
    }

    // ---- promises 32 and 33

    private static void refusedBoth(long[] numbers, String what, long code, String... scenes) {
        for (int of = 0; of <= 1; of++) {
            int w = of;
            Scenes.refusedWith(numbers, "chance, " + what, code, x -> x.chance(3, w), scenes);
            Scenes.refusedWith(numbers, "mean, " + what, code, x -> x.mean(3, w), scenes);
        }
    }

    static void promise32_noSuchTrayNoSuchWhat() {
        for (int tray : NO_TRAYS) {
            Scenes.refused("tray " + tray, -2, x -> x.chance(tray, 0), Scenes.ALL);
        }
        int[] none = {-1, 2, LEAST, MOST};
        for (int what : none) {
            Scenes.refused("what " + what + " ahead of a missing tray", -2, x -> x.chance(3, what), Scenes.ALL);
            Scenes.refusedWith(many(7, 999), "what " + what + " ahead of all", -2, x -> x.chance(3, what), Scenes.ALL);
        }
    }

    static void promise33_noSuchTrayNoSuchWhat() {
        for (int tray : NO_TRAYS) {
            Scenes.refused("tray " + tray, -2, x -> x.mean(tray, 0), Scenes.ALL);
        }
        int[] none = {-1, 2, LEAST, MOST};
        for (int what : none) {
            Scenes.refused("what " + what + " ahead of a missing tray", -2, x -> x.mean(3, what), Scenes.ALL);
            Scenes.refusedWith(many(7, 999), "what " + what + " ahead of all", -2, x -> x.mean(3, what), Scenes.ALL);
        }
    }

    static void promise32_missing() {
        Scenes.refused("above", -6, x -> x.chance(3, 0), Scenes.ALL);
        Scenes.refused("below", -6, x -> x.chance(3, 1), Scenes.ALL);
    }

    static void promise33_missing() {
        Scenes.refused("above", -6, x -> x.mean(3, 0), Scenes.ALL);
        Scenes.refused("below", -6, x -> x.mean(3, 1), Scenes.ALL);
    }

    static void promise32_not1To6Numbers() {
        int[] none = {0, 7, 8, 40};
        for (int n : none) {
            refusedBoth(many(n, 0), n + " numbers", -4, Scenes.ALL);
            refusedBoth(many(n, 999), n + " numbers ahead of no hour", -4, Scenes.ALL);
        }
    }

    static void promise32_1To6Numbers() {
        long below = 1;
        long above = 1;
        for (int n = 1; n <= 6; n++) {
            // strength 1 that doesn't tire: up if no lot was 0
            BearerKin x = Check.with("county places 1;kin at 0 strength 1;tires:strength;");
            Check.fill(x, 0, many(n, 0));
            below *= 10;
            above *= 9;
            Check.due(n + " hours", new long[] {x.chance(0, 0), x.chance(0, 1)}, above, below);
            Check.due(n + " hours, mean", new long[] {x.mean(0, 0), x.mean(0, 1)}, above, below);
        }
    }

    static void promise32_eachHourThatIsTold() {
        for (int n = 1; n <= 6; n++) {
            for (int i = 0; i < n; i++) {
                BearerKin x = Check.with("county places 2;way 0 1;kin at 0;kin at 0;tires:if goes=1 then 0 else 3 end;");
                Check.fill(x, 0, many(n, 0));
                Check.due("rests", x.chance(0, 0), 1);
                x.write(0, i, 101);
                Check.due("the bearer goes in hour " + i + " of " + n, x.chance(0, 0), 0);
                x.write(0, i, 111);
                Check.due("another one goes in hour " + i + " of " + n, x.chance(0, 0), 1);
                x.write(0, i, 11);
                Check.due("handed in hour " + i + " of " + n, x.chance(0, 0), 1);
                if (i + 1 < n) {
                    x.write(0, n - 1, 111);
                    Check.due("handed to the one that goes in the last", x.chance(0, 0), 0);
                }
            }
        }
    }

    static void promise32_noHourOfKinAndPlacesThatThereAre() {
        long[] none = {-1, 1, 9, 13, 19, 20, 23, 30, 39, 40, 99, 103, 113, 123, 130, 199, 200, 1L << 32,
            Long.MIN_VALUE, Long.MAX_VALUE};
        for (long deed : none) {
            refusedBoth(new long[] {deed}, "hour " + deed + ", ahead of down", -3, Scenes.ALL);
        }
        refusedBoth(new long[] {0, 0, 0, 0, 0, 200}, "the last", -3, Scenes.ALL);
        for (int deed = -12; deed <= 212; deed++) {
            BearerKin x = Check.with("county places 2;kin at 0;kin at 1;tires:3;");
            Check.fill(x, 0, deed);
            boolean hour = deed == 0 || deed == 10 || deed == 11 || deed == 100 || deed == 101 || deed == 110 || deed == 111;
            Check.due("hour " + deed, new long[] {x.chance(0, 0), x.mean(0, 1)}, hour ? 1 : -3, hour ? 5 : -3);
        }
    }

    static void promise32_itIsDown() {
        refusedBoth(many(1, 0), "one hour", -5, Scenes.NEW, Scenes.DOWN, Scenes.NO_KIN);
        refusedBoth(many(6, 0), "six hours", -5, Scenes.NEW, Scenes.DOWN, Scenes.NO_KIN);
        refusedBoth(new long[] {10, 11, 100, 101, 110, 111}, "all kinds", -5, Scenes.DOWN);
    }

    static void promise32_inLowestTerms() {
        BearerKin x = Check.with("county places 1;kin at 0;tires:0;");
        Check.fill(x, 0, 0, 0, 0);
        Check.due("never", new long[] {x.chance(0, 0), x.chance(0, 1), x.mean(0, 0), x.mean(0, 1)}, 0, 1, 0, 1);
        BearerKin y = Check.with("county places 1;kin at 0;tires:3;");
        Check.fill(y, 0, 0, 0, 0, 0, 0, 0);
        // each time 3 or, by one lot of ten, 2
        Check.due("always", new long[] {y.chance(0, 0), y.chance(0, 1), y.mean(0, 0), y.mean(0, 1)}, 1, 1, 29, 10);
        BearerKin z = Check.with("county places 1;kin at 0;kin at 0 strength 0;tires:3;");
        Check.fill(z, 0, 0);
        // 6, less one by two lots of ten
        Check.due("two kin", new long[] {z.chance(0, 0), z.chance(0, 1), z.mean(0, 0), z.mean(0, 1)}, 1, 1, 29, 5);
        BearerKin w = Check.with("county places 1;kin at 0;kin at 0;kin at 0;tires:3;");
        Check.fill(w, 0, 0);
        Check.due("three kin", new long[] {w.mean(0, 0), w.mean(0, 1)}, 87, 10);
    }

    static void term3_whatCantBeDoneIsARest() {
        BearerKin x = Check.with("county places 2;kin at 0;kin at 1 strength 0;");
        int[] hours = {10, 11, 100, 101, 110, 111};
        for (int deed : hours) {
            // a rest leaves 2 and 1, wearied by two lots of ten
            Check.fill(x, 0, deed);
            Check.due("hour " + deed, new long[] {x.chance(0, 0), x.chance(0, 1), x.mean(0, 0), x.mean(0, 1)}, 1, 1, 14, 5);
        }
    }

    static void term3_aLotOf0WeariesNobodyMore() {
        // kin 1 has 0 and keeps it: its lot takes nothing
        BearerKin x = Check.with("county places 1;kin at 0;kin at 0 strength 0;tires:strength;");
        Check.fill(x, 0, 0);
        Check.due("only kin 0 can be weaker", new long[] {x.mean(0, 0), x.mean(0, 1)}, 29, 10);
    }

    static void term3_downByAnHourNoLotWeakensAnybodyAnyMore() {
        BearerKin x = Check.with("county places 1;kin at 0 strength 1;kin at 0 strength 2;");
        Check.fill(x, 0, 0);
        Check.due("down by the hour", new long[] {x.chance(0, 0), x.chance(0, 1), x.mean(0, 0), x.mean(0, 1)}, 0, 1, 3, 1);
        Check.fill(x, 0, 0, 0, 0);
        Check.due("it stays so", new long[] {x.chance(0, 0), x.chance(0, 1), x.mean(0, 0), x.mean(0, 1)}, 0, 1, 3, 1);
    }

    static void term3_downByALotNoLotWeakensAnybodyAnyMore() {
        BearerKin x = Check.with("county places 1;kin at 0 strength 1;kin at 0 strength 1;tires:strength;");
        Check.fill(x, 0, 0);
        // by lot 0 it is down with 1, by lot 1 up with 1, else up with 2
        Check.due("one hour", new long[] {x.chance(0, 0), x.chance(0, 1), x.mean(0, 0), x.mean(0, 1)}, 9, 10, 9, 5);
        Check.fill(x, 0, 0, 0);
        // 10 of 100 stay with 1 down; of 10 with 1 (lot 1) one more goes down with 0, 9 stay with 1;
        // of 80 with 2 8 go down with 1, 8 have 1, 64 have 2
        Check.due("two hours", new long[] {x.chance(0, 0), x.chance(0, 1), x.mean(0, 0), x.mean(0, 1)},
            81, 100, 10 + 9 + 8 + 8 + 128, 100);
    }
}
