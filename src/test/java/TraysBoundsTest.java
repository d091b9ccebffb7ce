/** Bounds of promises 34 to 39, and those that "Terms" names in ==== 3. for trays, images and codes. */
final class TraysBoundsTest {
    private static final int LEAST = Integer.MIN_VALUE;
    private static final int MOST = Integer.MAX_VALUE;
    private static final int[] NO_TRAYS = {-1, 4, LEAST, MOST};
    private static final String STAYS = "county places 1;kin at 0;tires:strength;";

    public static void main(String[] args) {
        Check.runAll(TraysBoundsTest.class);
    }

    // ---- promise 34

    static void promise34_noSuchTray() {
        for (int tray : NO_TRAYS) {
            Scenes.refused("tray " + tray, -2, x -> x.numbers(tray, 0, 1), Scenes.ALL);
            Scenes.refused("tray " + tray + " ahead of n", -2, x -> x.numbers(tray, 0, 41), Scenes.ALL);
        }
        BearerKin x = new BearerKin();
        Check.due("the first", x.numbers(0, 0, 1), 0);
        Check.due("the last", x.numbers(3, 0, 1), 0);
    }

    static void promise34_noSuchSort() {
        int[] none = {-1, 4, LEAST, MOST};
        for (int sort : none) {
            Scenes.refused("sort " + sort, -2, x -> x.numbers(0, sort, 1), Scenes.ALL);
            Scenes.refused("sort " + sort + " ahead of n", -2, x -> x.numbers(0, sort, -1), Scenes.ALL);
        }
    }

    static void promise34_nBelow0OrAbove40() {
        int[] none = {-1, 41, LEAST, MOST};
        for (int n : none) {
            for (int tray = 0; tray < 4; tray++) {
                int t = tray;
                Scenes.refused("tray " + tray + ", n " + n + ": it stays", -3, x -> x.numbers(t, 2, n), Scenes.ALL);
            }
        }
    }

    static void promise34_0To40() {
        for (int n = 0; n <= 40; n++) {
            BearerKin x = Check.with(STAYS);
            Check.due(n + " numbers", x.numbers(1, 3, n), 0);
            Check.due("below", x.write(1, -1, 5), -7);
            if (n > 0) {
                Check.due("the first of " + n, x.write(1, 0, 0), 0);
                Check.due("the last of " + n, x.write(1, n - 1, 0), 0);
            }
            Check.due("one more than " + n, x.write(1, n, 5), -7);
            Check.due("so many deeds", x.perform(1), n);
        }
    }

    static void promise34_all0InPlaceOfAnotherOne() {
        BearerKin x = Check.with(STAYS);
        for (int tray = 0; tray < 4; tray++) {
            x.numbers(tray, 3, 40);
            for (int i = 0; i < 40; i++) {
                x.write(tray, i, 99);
            }
            Check.due("no deeds", x.judge(tray, 0), 0);
            x.numbers(tray, 3, 2);
            Check.due("two rests", new long[] {x.judge(tray, 0), x.perform(tray)}, -1, 2);
            x.numbers(tray, 3, 40);
            Check.due("forty rests", new long[] {x.judge(tray, 0), x.perform(tray)}, -1, 40);
        }
        x.numbers(0, 3, 1);
        x.write(0, 0, 1L << 40);
        x.numbers(0, 0, 1);
        Check.due("another sort", x.write(0, 0, 255), -1);
    }

    static void promise34_numbersThatWereBehindDontCount() {
        BearerKin x = Check.with("county places 1;kin at 0;tires:3;");
        for (int n = 1; n <= 5; n++) {
            Check.fill(x, 0, 0, 0, 0, 0, 0, 99, 99, 99, 99);
            Check.due("nine", x.seen(0), -4);
            x.numbers(0, 3, n);
            x.numbers(0, 3, 5);
            x.write(0, n - 1, 99);
            x.numbers(0, 3, n - 1);
            Check.due("seen, " + (n - 1), x.seen(0), n == 1 ? -4 : 1);
            Check.due("weathers, " + (n - 1), x.weathers(0), n == 1 ? -4 : 0);
            Check.due("chance, " + (n - 1), x.chance(0, 0), n == 1 ? -4 : 1);
            Check.due("judged, " + (n - 1), x.judge(0, 0), -1);
        }
    }

    static void term3_traysAreMissingAtFirstEachAlone() {
        BearerKin x = new BearerKin();
        for (int tray = 0; tray < 4; tray++) {
            Check.due("missing " + tray, x.perform(tray), -6);
            x.numbers(tray, 0, 0);
            Check.due("has none " + tray, x.perform(tray), 0);
        }
    }

    // ---- promise 35

    static void promise35_noSuchTray() {
        for (int tray : NO_TRAYS) {
            Scenes.refused("tray " + tray, -2, x -> x.write(tray, 0, 1), Scenes.ALL);
            Scenes.refused("tray " + tray + " ahead of i", -2, x -> x.write(tray, -1, 1), Scenes.ALL);
        }
    }

    static void promise35_missing() {
        Scenes.refused("the last tray", -6, x -> x.write(3, 0, 1), Scenes.ALL);
        Scenes.refused("ahead of i", -6, x -> x.write(3, 40, 1), Scenes.ALL);
        Scenes.refused("ahead of i", -6, x -> x.write(3, -1, 1), Scenes.ALL);
        Scenes.refused("the first tray", -6, x -> x.write(0, 0, 1), Scenes.NEW);
    }

    static void promise35_noSuchNumber() {
        int[] none = {-1, 40, LEAST, MOST};
        for (int i : none) {
            Scenes.refused("number " + i, -7, x -> x.write(0, i, 1), Scenes.RICH, Scenes.DOWN, Scenes.NO_KIN);
            Scenes.refused("number " + i + " of 40", -7, x -> x.write(1, i, 1), Scenes.DOWN);
        }
        Scenes.refused("the fifth of four", -7, x -> x.write(0, 4, 1), Scenes.RICH);
        Scenes.refused("the third of two", -7, x -> x.write(1, 2, 1), Scenes.RICH);
        Scenes.refused("of none", -7, x -> x.write(0, 0, 1), Scenes.DOWN);
    }

    private static void cut(int sort, long v, long due) {
        BearerKin x = new BearerKin();
        x.numbers(2, sort, 1);
        Check.due("sort " + sort + ", " + v, x.write(2, 0, v), due);
    }

    static void promise35_cutTo8Bits() {
        cut(0, 127, 127);
        cut(0, 128, -128);
        cut(0, 129, -127);
        cut(0, 255, -1);
        cut(0, 256, 0);
        cut(0, 257, 1);
        cut(0, -1, -1);
        cut(0, -128, -128);
        cut(0, -129, 127);
        cut(0, Long.MAX_VALUE, -1);
        cut(0, Long.MIN_VALUE, 0);
    }

    static void promise35_cutTo16Bits() {
        cut(1, 128, 128);
        cut(1, 32767, 32767);
        cut(1, 32768, -32768);
        cut(1, 65535, -1);
        cut(1, 65536, 0);
        cut(1, -32768, -32768);
        cut(1, -32769, 32767);
        cut(1, Long.MAX_VALUE, -1);
        cut(1, Long.MIN_VALUE, 0);
    }

    static void promise35_cutTo32Bits() {
        cut(2, 32768, 32768);
        cut(2, 2147483647L, 2147483647L);
        cut(2, 2147483648L, -2147483648L);
        cut(2, 4294967295L, -1);
        cut(2, 4294967296L, 0);
        cut(2, -2147483648L, -2147483648L);
        cut(2, -2147483649L, 2147483647L);
        cut(2, Long.MAX_VALUE, -1);
        cut(2, Long.MIN_VALUE, 0);
    }

    static void promise35_64BitsAreAll() {
        cut(3, 2147483648L, 2147483648L);
        cut(3, 4294967296L, 4294967296L);
        cut(3, Long.MAX_VALUE, Long.MAX_VALUE);
        cut(3, Long.MIN_VALUE, Long.MIN_VALUE);
        cut(3, -1, -1);
    }

    static void promise35_whatIsThereIsTheCutNumber() {
        for (int sort = 0; sort < 4; sort++) {
            BearerKin x = Check.with(STAYS);
            x.numbers(0, sort, 1);
            // 35 and 2 to the power of 8, 16, 32: a weather where it is cut
            long[] wide = {35 + (1L << 8), 35 + (1L << 16), 35 + (1L << 32)};
            for (int i = 0; i < 3; i++) {
                x.write(0, 0, wide[i]);
                Check.due("sort " + sort + ", " + wide[i], x.judge(0, 1), sort <= i ? 0 : 1);
            }
        }
    }

    static void promise35_eachNumberAlone() {
        BearerKin x = Check.with(STAYS);
        for (int tray = 0; tray < 4; tray++) {
            x.numbers(tray, 0, 40);
        }
        for (int tray = 0; tray < 4; tray++) {
            x.write(tray, 39, 1);
            for (int other = 0; other < 4; other++) {
                Check.due(other + " behind " + tray, x.judge(other, 0), other <= tray ? 39 : -1);
            }
        }
        for (int tray = 0; tray < 4; tray++) {
            x.write(tray, 0, 1);
            for (int other = 0; other < 4; other++) {
                Check.due(other + " behind " + tray, x.judge(other, 0), other <= tray ? 0 : 39);
            }
        }
    }

    // ---- promise 36

    static void promise36_noSuchTrayPlaceKin() {
        for (int tray : NO_TRAYS) {
            Scenes.refused("tray " + tray, -2, x -> x.lists(tray, 0, -1), Scenes.ALL);
        }
        int[] noPlaces = {-1, 3, LEAST, MOST};
        for (int k : noPlaces) {
            Scenes.refused("place " + k, -2, x -> x.lists(0, k, -1), Scenes.ALL);
            Scenes.refused("place " + k + " ahead of a missing tray", -2, x -> x.lists(3, k, -1), Scenes.ALL);
        }
        Scenes.refused("the next place", -2, x -> x.lists(0, x.count(0), -1), Scenes.ALL);
        int[] noKin = {-2, 3, LEAST, MOST};
        for (int p : noKin) {
            Scenes.refused("kin " + p, -2, x -> x.lists(0, 0, p), Scenes.ALL);
            Scenes.refused("kin " + p + " ahead of a missing tray", -2, x -> x.lists(3, 0, p), Scenes.ALL);
        }
        Scenes.refused("the next of the kin", -2, x -> x.lists(0, 0, x.count(1)), Scenes.ALL);
    }

    static void promise36_missing() {
        Scenes.refused("ahead of none", -6, x -> x.lists(3, 0, -1), Scenes.ALL);
        Scenes.refused("borne by one", -6, x -> x.lists(3, 2, 2), Scenes.RICH);
    }

    static void promise36_thereIsNone() {
        Scenes.refused("down, no places in the tray", -5, x -> x.lists(0, 0, -1), Scenes.DOWN);
        Scenes.refused("down", -5, x -> x.lists(1, 1, 1), Scenes.DOWN);
        Scenes.refused("without kin", -5, x -> x.lists(0, 1, -1), Scenes.NO_KIN);
        Scenes.refusedIn("county places 2;kin at 0;", "no way", -5, x -> x.lists(0, 1, -1), 31);
        Scenes.refusedIn("county places 2;way 0 1;kin at 0 strength 1;", "it would be down there", -5,
            x -> x.lists(0, 1, -1), 31);
    }

    static void promise36_asFarAsItHasPlaces() {
        String road = "county places 5;way 0 1;way 1 2;way 2 3;way 3 4;kin at 0;tires:3;";
        for (int n = 0; n <= 6; n++) {
            BearerKin x = Check.with(road);
            x.numbers(0, n % 4, n);
            for (int i = 0; i < n; i++) {
                x.write(0, i, 30 + i);
            }
            Check.due("four hours into " + n, x.lists(0, 4, -1), Math.min(4, n));
            Check.due("all that are there can be", x.perform(0), n);
            Check.due("so far", x.count(3), Math.min(4, n));
            Check.due("hours", x.count(7), Math.min(4, n));
            Check.due("numbers behind stay", x.count(6), n > 4 ? n - 1 : 0);
        }
    }

    static void promise36_hereAlready() {
        BearerKin x = Check.with("county places 1;kin at 0;");
        Check.fill(x, 0, 37);
        Check.due("no hours", new long[] {x.lists(0, 0, -1), x.lists(0, 0, 0)}, 0, 0);
        x.perform(0);
        Check.due("the number stays", x.count(6), 7);
        x.numbers(0, 0, 0);
        Check.due("no hours, no places", x.lists(0, 0, -1), 0);
    }

    static void promise36_borneByOne() {
        BearerKin x = Check.with("county places 2;way 0 1;kin at 0;kin at 0;kin at 0;tires:3;");
        x.numbers(0, 0, 40);
        Check.due("by 2", x.lists(0, 1, 2), 2);
        Check.due("12, 122 and rests", x.perform(0), 40);
        Check.due("it is there, by 2", new long[] {x.count(3), x.count(2)}, 1, 2);
        BearerKin y = Check.with("county places 2;way 0 1;kin at 0;kin at 0;kin at 0;tires:3;");
        y.numbers(0, 0, 40);
        Check.due("by any", y.lists(0, 1, -1), 1);
        y.perform(0);
        Check.due("it is there, by 0", new long[] {y.count(3), y.count(2)}, 1, 0);
    }

    // ---- promises 37 and 38

    static void promise37_noSuchImage() {
        int[] none = {-1, 2, LEAST, MOST};
        for (int i : none) {
            Scenes.refused("image " + i, -2, x -> x.image(i), Scenes.ALL);
        }
        BearerKin x = new BearerKin();
        Check.due("the first, the last", new long[] {x.image(0), x.image(1)}, 0, 0);
    }

    static void promise37_eachAloneInPlaceOfAnotherOne() {
        BearerKin x = Check.with("county places 1;kin at 0;");
        x.image(0);
        x.weather(1);
        x.image(1);
        x.weather(2);
        x.restore(0);
        Check.due("0", x.count(6), 0);
        x.restore(1);
        Check.due("1", x.count(6), 1);
        x.weather(3);
        x.image(0);
        x.weather(4);
        x.restore(1);
        Check.due("1 again", x.count(6), 1);
        x.restore(0);
        Check.due("0 in place of another one", x.count(6), 3);
    }

    static void promise37_nothingIsChangedByIt() {
        BearerKin x = Scenes.make(Scenes.RICH);
        Check.due("made", x.image(0), 0);
        Check.due("what can be undone", x.count(8), 10);
        Check.due("undone", x.undo(3), 7);
        Check.due("weather", x.count(6), 0);
    }

    static void promise38_noSuchImage() {
        int[] none = {-1, 2, LEAST, MOST};
        for (int i : none) {
            Scenes.refused("image " + i, -2, x -> x.restore(i), Scenes.ALL);
        }
    }

    static void promise38_noneWasMade() {
        Scenes.refused("0", -5, x -> x.restore(0), Scenes.NEW, Scenes.DOWN, Scenes.NO_KIN);
        Scenes.refused("1", -5, x -> x.restore(1), Scenes.NEW, Scenes.NO_KIN);
    }

    static void promise38_theCountyAndWhatUndoingBringsBack() {
        BearerKin x = Scenes.make(Scenes.RICH);
        Check.due("restored", x.restore(1), 0);
        // kin 1 had just eaten: places 0 1 1, strengths 3, weather 4, hours 3
        Check.due("places", new long[] {x.kin(0, 0), x.kin(1, 0), x.kin(2, 0)}, 0, 1, 1);
        Check.due("strengths", new long[] {x.kin(0, 2), x.kin(1, 2), x.kin(2, 2)}, 3, 3, 3);
        Check.due("bearer, weather, hours, lines", new long[] {x.count(2), x.count(6), x.count(7), x.count(10)},
            1, 4, 3, 10);
        Check.due("the tape, faults and trays stay", new long[] {x.count(9), x.fault(0), x.fault(1), x.write(0, 3, 7),
            x.perform(3)}, 40, 3, 22, 7, -6);
        x.county(40);
        Check.due("another county", x.count(0), 4);
        Check.due("restored once more", x.restore(0), 0);
        Check.due("places, kin, heights, ways, ages", new long[] {x.count(0), x.count(1), x.place(2, 0), x.place(1, 1),
            x.kin(1, 1), x.count(10)}, 3, 3, 9, 5, 7, 10);
        Check.due("its law", x.why(101), 0);
        Check.due("strengths told", new long[] {x.kin(0, 2), x.kin(1, 2), x.kin(2, 2)}, 3, 2, 1);
    }

    static void promise38_nothingCanBeUndoneBehind() {
        BearerKin x = Scenes.make(Scenes.RICH);
        x.restore(1);
        Check.due("nothing", x.count(8), 0);
        Check.due("undo", x.undo(1), -3);
        x.weather(7);
        Check.due("what is done then", x.undo(1), 0);
        Check.due("weather", x.count(6), 4);
    }

    static void promise38_ofANewObject() {
        BearerKin x = new BearerKin();
        x.image(1);
        Check.tell(x, "county places 5;kin at 4;weather 9;");
        x.hour(0);
        x.restore(1);
        Check.due("1 place, no kin, weather 0, no hours, no lines", new long[] {x.count(0), x.count(1), x.count(6),
            x.count(7), x.count(10)}, 1, 0, 0, 0, 0);
        Check.due("questions", new long[] {x.up(), x.stands(), x.reach()}, -5, 1, 0);
    }

    // ---- promise 39

    static void promise39_0To10() {
        BearerKin x = Scenes.make(Scenes.RICH);
        long[] counts = new long[11];
        for (int i = 0; i < 11; i++) {
            counts[i] = x.count(i);
        }
        Check.due("rich", counts, 3, 3, 2, 2, 8, 0, 2, 6, 10, 40, 10);
        BearerKin y = Scenes.make(Scenes.DOWN);
        for (int i = 0; i < 11; i++) {
            counts[i] = y.count(i);
        }
        Check.due("down", counts, 2, 2, 0, 0, 3, 1, 7, 1, 2, 900, 4);
        BearerKin z = Scenes.make(Scenes.NO_KIN);
        for (int i = 0; i < 11; i++) {
            counts[i] = z.count(i);
        }
        Check.due("without kin", counts, 2, 0, -1, -1, 0, 1, 6, 0, 1, 0, 4);
    }

    static void promise39_noneForOthers() {
        int[] others = {-1, 11, LEAST, MOST};
        for (int what : others) {
            Scenes.refused("count " + what, -1, x -> x.count(what), Scenes.ALL);
        }
    }

    static void promise39_allStrengthsTogether() {
        Check.due("0", Check.with("county places 1;kin at 0 strength 0;").count(4), 0);
        Check.due("9", Check.with("county places 1;kin at 0;kin at 0;kin at 0;").count(4), 9);
    }

    // ---- the calls of an object

    static void term0_512Calls() {
        BearerKin x = Check.with("county places 2;way 0 1;kin at 0;kin at 0;tires:strength;");
        // four calls till here, and these two
        x.numbers(0, 0, 1);
        x.write(0, 0, 101);
        for (int i = 0; i < 500; i++) {
            Check.due("hour", x.hour(i % 2 == 0 ? 101 : 100), 1);
        }
        Check.due("the 507th", x.count(7), 500);
        Check.due("the 508th", x.undo(10), 0);
        Check.due("the 509th", x.count(7), 490);
        Check.due("the 510th", x.up(), -1);
        Check.due("the 511th", x.perform(0), 1);
        Check.due("the 512th", x.undo(1), 0);
    }
}
