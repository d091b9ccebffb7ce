/** Promises 16 to 24, 30, 31: kept up, coming, the beast. */
final class KeptTest {
    private static final String ONE = "county places 1;kin at 0;";
    private static final String TWO = "county places 1;kin at 0;kin at 0;";
    private static final String ROAD = "county places 4;way 0 1;way 1 2;kin at 0;";
    private static final String DOWN = "county places 2;way 0 1;kin at 0 strength 0;kin at 0;";

    public static void main(String[] args) {
        up();
        keeping();
        rows();
        needed();
        coming();
        comingBorneByOne();
        stands();
        beast();
        Check.end("KeptTest");
    }

    private static void up() {
        BearerKin x = Check.with(ONE);
        Check.due("16 two hours", x.up(), 2);
        x.hour(0);
        Check.due("16 one hour", x.up(), 1);
        x.hour(0);
        Check.due("16 none", x.up(), 0);
        x.hour(0);
        Check.due("16 down", x.up(), -5);
        x.meal(0);
        Check.due("16 up again", x.up(), 2);
        Check.due("16 for ever", Check.with(TWO).up(), -1);
        Check.due("16 no kin", new BearerKin().up(), -5);
        Check.due("16 by the law", Check.with("county places 1;kin at 0;tires: strength;").up(), -1);
        BearerKin y = Check.with("county places 1;kin at 0;tires: strength-weather;weather 2;");
        Check.due("16 by the weather", y.up(), 1);
        y.weather(1);
        Check.due("16 by another weather", y.up(), 2);
        y.weather(0);
        Check.due("16 by another weather, for ever", y.up(), -1);
        y.weather(2);
        Check.due("16 by the first weather again", y.up(), 1);
        // each of the three bears for two hours and a third hands over; none gets stronger
        Check.due("16 without new strength", Check.with("county places 1;kin at 0;kin at 0;kin at 0;"
            + "tires: strength-bears;").up(), 6);
        // the hills spend nothing, but only the way there is spent
        Check.due("16 by going", Check.with("county places 2;height 1 5;way 0 1;kin at 0;"
            + "tires: if height=5 then strength else strength-1 end;may: height=5;").up(), -1);
    }

    private static void keeping() {
        BearerKin x = Check.with(ONE);
        Check.due("17 the row", new long[] {x.keeping(0), x.keeping(1), x.keeping(2), x.keeping(99)}, 0, 0, -1, -1);
        Check.due("17 below", x.keeping(-1), -3);
        Check.due("17 above", x.keeping(100), -3);
        x.meal(0);
        x.hour(0);
        x.hour(0);
        Check.due("17 no hour", x.keeping(0), -1);
        x.hour(0);
        Check.due("17 down", x.keeping(0), -5);
        Check.due("17 the number ahead of down", x.keeping(100), -3);
        BearerKin y = Check.with(TWO);
        int[] turns = {11, 0, 10, 0};
        Check.due("17 for ever 0", y.keeping(0), 0);
        Check.due("17 for ever 1", y.keeping(1), 0);
        for (int i = 2; i < 100; i++) {
            Check.due("17 for ever " + i, y.keeping(i), turns[(i - 2) % 4]);
        }
        // waiting longest with the bearer first: rest, rest, then over, rest, rest
        BearerKin z = Check.with("county places 1;kin at 0;kin at 0;tires: strength-bears;");
        Check.due("17 the first of the longest", new long[] {z.up(), z.keeping(0), z.keeping(1), z.keeping(2),
            z.keeping(3), z.keeping(4)}, 4, 0, 0, 11, 0, -1);
    }

    private static void rows() {
        BearerKin x = Check.with(ONE);
        Check.due("18 rows", new long[] {x.rows(0), x.rows(1), x.rows(2), x.rows(3), x.rows(8)}, 1, 1, 1, 0, 0);
        Check.due("18 below", x.rows(-1), -3);
        Check.due("18 above", x.rows(9), -3);
        Check.due("18 down", Check.with(DOWN).rows(0), -5);
        Check.due("18 the number ahead of down", Check.with(DOWN).rows(9), -3);
        BearerKin y = Check.with("county places 5;way 0 1;way 0 2;way 0 3;way 0 4;way 1 2;way 1 3;way 1 4;way 2 3;"
            + "way 2 4;way 3 4;kin at 0;kin at 0;kin at 0;tires: 3;may: 1=1;");
        Check.due("18 all can be done: rest, two to hand to, three go to four", y.rows(1), 15);
        // behind rest and hands all are at one place; the bearer that went has none to hand it to, others one
        Check.due("18 twice", y.rows(2), 15 + 2 * 15 + 4 * 13 + 8 * 14);
        BearerKin z = Check.with("county places 2;way 0 1;kin at 0;tires: 3;");
        Check.due("18 rest or go, eight times", z.rows(8), 256);
    }

    private static void needed() {
        BearerKin x = Check.with(TWO);
        Check.due("19 by hours", new long[] {x.needed(1), x.needed(2), x.needed(3), x.needed(4), x.needed(5),
            x.needed(20)}, 0, 0, 2, 2, 3, 3);
        Check.due("19 no hours", x.needed(0), -3);
        Check.due("19 above", x.needed(21), -3);
        Check.due("19 down", Check.with(DOWN).needed(1), -5);
        Check.due("19 the number ahead of down", Check.with(DOWN).needed(0), -3);
        BearerKin y = Check.with(ONE);
        Check.due("19 it can't be anyhow", y.needed(3), 0);
        Check.due("19 rest needs none", y.needed(2), 0);
        BearerKin z = Check.with("county places 2;height 1 5;way 0 1;kin at 0;kin at 1;"
            + "tires: if height=5 then 3 else strength-1 end;may: kin=0;");
        Check.due("19 it must go", z.needed(3), 1);
        BearerKin w = Check.with("county places 2;height 0 5;way 0 1;kin at 1;"
            + "tires: if height=5 then 3 else strength-1 end;");
        Check.due("19 it must go to place 0", w.needed(3), 1);
        BearerKin v = Check.with("county places 1;kin at 0;kin at 0;tires: strength-bears;");
        Check.due("19 just so many, and one more", new long[] {v.needed(4), v.needed(5)}, 2, 0);
    }

    private static void coming() {
        BearerKin x = Check.with(ROAD);
        Check.due("20 hours", new long[] {x.soonest(0, -1), x.soonest(1, -1), x.soonest(2, -1), x.soonest(3, -1)},
            0, 1, 2, -1);
        Check.due("20 no place", x.soonest(4, -1), -2);
        Check.due("20 below", x.soonest(-1, -1), -2);
        Check.due("20 no kin", x.soonest(0, 1), -2);
        Check.due("20 kin below NONE", x.soonest(0, -2), -2);
        Check.due("21 the way", new long[] {x.way(2, -1, 0), x.way(2, -1, 1), x.way(2, -1, 2)}, 101, 102, -1);
        Check.due("21 borne by one", x.way(2, 0, 1), 102);
        Check.due("21 here", x.way(0, -1, 0), -1);
        Check.due("21 it can't be", x.way(3, -1, 0), -1);
        Check.due("21 below", x.way(3, -1, -1), -3);
        Check.due("21 no place, ahead of below", x.way(4, -1, -1), -2);
        Check.due("21 no kin", x.way(0, 1, 0), -2);
        Check.due("22 reach", x.reach(), 7);
        x.hour(0);
        Check.due("22 a weaker one", x.reach(), 3);
        Check.due("20 too weak", x.soonest(2, -1), -1);
        x.hour(0);
        Check.due("22 the weakest: it would be down there", x.reach(), 1);
        Check.due("23 now, too", x.bearers(), 1);
        x.hour(0);
        Check.due("20 down", x.soonest(0, -1), -1);
        Check.due("22 down", x.reach(), 0);
        Check.due("23 down", x.bearers(), 0);
        Check.due("24 down", x.stands(), 1);
        Check.due("24 no kin", new BearerKin().stands(), 1);
        Check.due("20 no kin at all", new BearerKin().soonest(0, -1), -1);
        Check.due("22 no kin at all", new BearerKin().reach(), 0);
    }

    private static void comingBorneByOne() {
        BearerKin x = Check.with("county places 2;way 0 1;kin at 0;kin at 0;");
        Check.due("20 handed", x.soonest(0, 1), 1);
        Check.due("21 handed", x.way(0, 1, 0), 11);
        Check.due("20 handed and gone", x.soonest(1, 1), 2);
        Check.due("21 handed and gone", new long[] {x.way(1, 1, 0), x.way(1, 1, 1)}, 11, 111);
        Check.due("23 both", x.bearers(), 3);
        BearerKin y = Check.with("county places 2;kin at 0;kin at 1;kin at 0 strength 0;bears 0;tires: strength;");
        Check.due("23 one is elsewhere, one too weak", y.bearers(), 1);
        // two ways of two hours: the first by deeds as numbers goes over the lower place
        BearerKin z = Check.with("county places 4;way 0 2;way 2 3;way 0 1;way 1 3;kin at 0;");
        Check.due("21 the first of like rows", new long[] {z.way(3, -1, 0), z.way(3, -1, 1)}, 101, 103);
    }

    private static void stands() {
        // (0,3); (0,2) (1,2); (0,1) (1,1) (2,1); (0,0) (1,0) (2,0)
        Check.due("24 places and strengths", Check.with(ROAD).stands(), 9);
        Check.due("24 only strengths", Check.with(ONE).stands(), 4);
        // both always of strength 3: by who bears it
        Check.due("24 bearers", Check.with("county places 1;kin at 0;kin at 0;tires: 3;").stands(), 2);
    }

    private static long[] beast(String text) {
        BearerKin x = Check.with(text);
        return new long[] {x.lasts(), x.best()};
    }

    private static void beast() {
        Check.due("30 31 once", beast(ONE), 1, 0);
        Check.due("30 31 not once", beast("county places 1;kin at 0 strength 2;"), 0, -1);
        Check.due("30 31 the beast alone wearies", beast("county places 1;kin at 0;tires: strength;"), 2, 0);
        Check.due("30 31 for ever", beast("county places 1;kin at 0;tires: 3;"), -1, 0);
        Check.due("30 31 handed", beast("county places 1;kin at 0 strength 2;kin at 0;"), 1, 11);
        Check.due("30 31 down", beast(DOWN), -5, -5);
        BearerKin none = new BearerKin();
        Check.due("30 no kin", none.lasts(), -5);
        Check.due("31 no kin", none.best(), -5);
        String refuge = "tires: if height=1 then 3 else strength-1 end;";
        Check.due("30 31 for ever at a place", beast("county places 2;height 1 1;way 0 1;kin at 0 strength 2;"
            + refuge), -1, 101);
        Check.due("30 31 it can still go later", beast("county places 2;height 1 1;way 0 1;kin at 0;" + refuge), -1, 0);
        BearerKin x = Check.with("county places 1;kin at 0;tires: strength-weather;");
        Check.due("30 by the weather", x.lasts(), 2);
        x.weather(1);
        Check.due("30 by another weather", x.lasts(), 1);
        x.weather(2);
        Check.due("30 by a third", x.lasts(), 0);
        Check.due("31 by a third", x.best(), -1);
        x.weather(0);
        Check.due("30 by the first weather again", x.lasts(), 2);
        Check.due("31 by the first weather again", x.best(), 0);
        Check.due("30 nothing was done", x.count(7), 0);
    }
}
