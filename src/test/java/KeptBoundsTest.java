/** Bounds of promises 16 to 24, 30 and 31, and those that "Terms" names in ==== 3. for rows and the beast. */
final class KeptBoundsTest {
    private static final int LEAST = Integer.MIN_VALUE;
    private static final int MOST = Integer.MAX_VALUE;
    private static final String TWO = "county places 1;kin at 0;kin at 0;";
    private static final String[] ALL_DOWN = {Scenes.NEW, Scenes.DOWN, Scenes.NO_KIN};

    public static void main(String[] args) {
        Check.runAll(KeptBoundsTest.class);
    }

    private static BearerKin alone(int strength) {
        return Check.with("county places 1;kin at 0 strength " + strength + ";");
    }

    // ---- promise 16

    static void promise16_itIsDown() {
        Scenes.refused("up", -5, x -> x.up(), ALL_DOWN);
    }

    static void promise16_byEachStrength() {
        Check.due("strength 0", alone(0).up(), -5);
        Check.due("strength 1: not one hour", alone(1).up(), 0);
        Check.due("strength 2", alone(2).up(), 1);
        Check.due("strength 3", alone(3).up(), 2);
    }

    static void promise16_forEver() {
        Check.due("none tires", Check.with("county places 1;kin at 0 strength 1;tires:strength;").up(), -1);
        Check.due("each hour tires", Check.with("county places 1;kin at 0;tires:strength-1;").up(), 2);
        Check.due("two by turns", Check.with(TWO).up(), -1);
        Check.due("two that can't meet", Check.with("county places 2;kin at 0;kin at 1;").up(), 2);
        Check.due("two that can meet", Check.with("county places 2;way 0 1;kin at 0;kin at 1;").up(), -1);
        Check.due("two, one of strength 0", Check.with("county places 1;kin at 0;kin at 0 strength 0;").up(), -1);
        // kin 1 comes to 1 and kin 0 to 1, then kin 1 would be down by bearing it
        Check.due("two that are too weak", Check.with("county places 1;kin at 0 strength 2;kin at 0 strength 0;").up(), 1);
    }

    static void promise16_nothingElseBeingDone() {
        BearerKin x = Check.with("county places 1;kin at 0;weather 1;tires:strength-weather;");
        Check.due("no meal, no other weather", x.up(), 2);
        Check.due("nothing was done", new long[] {x.count(6), x.count(7), x.count(8)}, 1, 0, 0);
    }

    // ---- promise 17

    static void promise17_iBelow0OrAbove99() {
        int[] none = {-1, 100, LEAST, MOST};
        for (int i : none) {
            Scenes.refused("i " + i + ", ahead of down", -3, x -> x.keeping(i), Scenes.ALL);
        }
    }

    static void promise17_itIsDown() {
        Scenes.refused("the first", -5, x -> x.keeping(0), ALL_DOWN);
        Scenes.refused("the last", -5, x -> x.keeping(99), ALL_DOWN);
    }

    static void promise17_notSoMany() {
        Check.due("strength 1", new long[] {alone(1).keeping(0), alone(1).keeping(99)}, -1, -1);
        Check.due("strength 2", new long[] {alone(2).keeping(0), alone(2).keeping(1)}, 0, -1);
        Check.due("strength 3", new long[] {alone(3).keeping(0), alone(3).keeping(1), alone(3).keeping(2)}, 0, 0, -1);
    }

    static void promise17_forEverUpTo99() {
        BearerKin x = Check.with(TWO);
        long[] got = new long[100];
        for (int i = 0; i < 100; i++) {
            got[i] = x.keeping(i);
        }
        Check.due("0, 1", new long[] {got[0], got[1]}, 0, 0);
        for (int i = 2; i < 100; i++) {
            Check.due("hour " + i, got[i], i % 4 == 2 ? 11 : i % 4 == 0 ? 10 : 0);
        }
        // by these hours it is kept up indeed
        for (int i = 0; i < 100; i++) {
            Check.due("done " + i, x.hour((int) got[i]), 1);
        }
    }

    static void term3_ofLikeRowsTheFirst() {
        // all hours are alike: a rest is the least number
        BearerKin x = Check.with("county places 3;way 0 1;way 0 2;kin at 0;kin at 0;tires:3;");
        Check.due("keeping", x.keeping(0), 0);
        Check.due("best", x.best(), 0);
        // a rest lasts less long than to hand it, which is less than to go
        BearerKin y = Check.with("county places 3;way 0 1;way 0 2;kin at 0;kin at 0;"
            + "tires:if goes=1 then 3 else if height=0 then 0 else 3 end end;height 1 1;height 2 2;");
        Check.due("of two to go to the first", new long[] {y.keeping(0), y.keeping(1)}, 101, 0);
    }

    // ---- promise 18

    static void promise18_nBelow0OrAbove8() {
        int[] none = {-1, 9, LEAST, MOST};
        for (int n : none) {
            Scenes.refused("n " + n + ", ahead of down", -3, x -> x.rows(n), Scenes.ALL);
        }
    }

    static void promise18_itIsDown() {
        Scenes.refused("0", -5, x -> x.rows(0), ALL_DOWN);
        Scenes.refused("8", -5, x -> x.rows(8), ALL_DOWN);
    }

    static void promise18_0To8() {
        BearerKin x = Check.with("county places 2;way 0 1;kin at 0;tires:3;");
        for (int n = 0; n <= 8; n++) {
            Check.due("rest or go, " + n, x.rows(n), 1L << n);
        }
        for (int s = 1; s <= 3; s++) {
            for (int n = 0; n <= 8; n++) {
                Check.due("strength " + s + ", rows of " + n, alone(s).rows(n), n < s ? 1 : 0);
            }
        }
    }

    /** Rows of n hours where each of three may always go to each of five places, all at place 0 first, 0 bearing it. */
    private static long allRows(int n) {
        long[] rows = new long[375];
        rows[0] = 1;
        for (int hour = 0; hour < n; hour++) {
            long[] then = new long[375];
            for (int i = 0; i < 375; i++) {
                int bearer = i / 125;
                int[] at = {i / 25 % 5, i / 5 % 5, i % 5};
                int[] worth = {25, 5, 1};
                then[i] += rows[i];
                for (int q = 0; q < 3; q++) {
                    if (q != bearer && at[q] == at[bearer]) {
                        then[q * 125 + i % 125] += rows[i];
                    }
                    for (int k = 0; k < 5; k++) {
                        if (k != at[q]) {
                            then[i + (k - at[q]) * worth[q]] += rows[i];
                        }
                    }
                }
            }
            rows = then;
        }
        long sum = 0;
        for (long r : rows) {
            sum += r;
        }
        return sum;
    }

    static void promise18_asManyAsCanBe() {
        BearerKin x = Check.with("county places 5;way 0 1;way 0 2;way 0 3;way 0 4;way 1 2;way 1 3;way 1 4;way 2 3;"
            + "way 2 4;way 3 4;kin at 0;kin at 0;kin at 0;tires:3;may:1=1;");
        for (int n = 0; n <= 8; n++) {
            Check.due("rows of " + n, x.rows(n), allRows(n));
        }
    }

    // ---- promise 19

    static void promise19_nBelow1OrAbove20() {
        int[] none = {0, -1, 21, LEAST, MOST};
        for (int n : none) {
            Scenes.refused("n " + n + ", ahead of down", -3, x -> x.needed(n), Scenes.ALL);
        }
    }

    static void promise19_itIsDown() {
        Scenes.refused("1", -5, x -> x.needed(1), ALL_DOWN);
        Scenes.refused("20", -5, x -> x.needed(20), ALL_DOWN);
    }

    static void promise19_1To20() {
        BearerKin x = Check.with(TWO);
        // without kin 1 there are 2 hours, without kin 0 (which may hand it over) 4
        for (int n = 1; n <= 20; n++) {
            Check.due("hours " + n, x.needed(n), n <= 2 ? 0 : n <= 4 ? 2 : 3);
        }
    }

    static void promise19_itCantBeAnyhow() {
        Check.due("just so long", alone(3).needed(2), 0);
        Check.due("not so long", alone(3).needed(3), 0);
        Check.due("not one hour", alone(1).needed(1), 0);
        BearerKin x = Check.with("county places 1;kin at 0;kin at 0;tires:strength-bears;");
        Check.due("just so long by kin 1", x.needed(4), 2);
        Check.due("longer can't be", x.needed(5), 0);
    }

    static void promise19_noHourInWhichItGoes() {
        String text = "county places 2;height 1 1;way 0 1;kin at 0 strength 2;tires:if height=1 then 3 else strength-1 end;";
        BearerKin x = Check.with(text);
        Check.due("one hour without going", x.needed(1), 0);
        Check.due("two hours by going", x.needed(2), 1);
        Check.due("twenty", x.needed(20), 1);
        BearerKin y = Check.with("county places 2;height 0 1;way 0 1;kin at 1 strength 2;"
            + "tires:if height=1 then 3 else strength-1 end;");
        Check.due("by going to place 0, the least number of all", new long[] {y.needed(1), y.needed(2)}, 0, 1);
        // another one that comes, is handed it and goes back does as well
        Check.due("either", Check.with(text + "kin at 1;").needed(20), 0);
    }

    static void promise19_eachOfThemAlone() {
        // either of 1 and 2 is enough, so neither is needed
        BearerKin x = Check.with("county places 1;kin at 0;kin at 0;kin at 0;");
        Check.due("three hours", x.needed(3), 0);
    }

    // ---- promises 20 and 21

    private static final String ROAD = "county places 4;way 0 1;way 1 2;kin at 0;kin at 0;tires:3;";

    static void promise20_noSuchPlaceNoSuchKin() {
        int[] none = {-1, 3, 5, LEAST, MOST};
        for (int k : none) {
            Scenes.refused("place " + k, -2, x -> x.soonest(k, -1), Scenes.ALL);
        }
        Scenes.refused("the next place", -2, x -> x.soonest(x.count(0), -1), Scenes.ALL);
        int[] noKin = {-2, 3, LEAST, MOST};
        for (int p : noKin) {
            Scenes.refused("kin " + p, -2, x -> x.soonest(0, p), Scenes.ALL);
        }
        Scenes.refused("the next of the kin", -2, x -> x.soonest(0, x.count(1)), Scenes.ALL);
    }

    static void promise20_howManyHours() {
        BearerKin x = Check.with(ROAD);
        Check.due("by any", new long[] {x.soonest(0, -1), x.soonest(1, -1), x.soonest(2, -1), x.soonest(3, -1)},
            0, 1, 2, -1);
        Check.due("by 0", new long[] {x.soonest(0, 0), x.soonest(1, 0), x.soonest(2, 0), x.soonest(3, 0)}, 0, 1, 2, -1);
        Check.due("by 1", new long[] {x.soonest(0, 1), x.soonest(1, 1), x.soonest(2, 1), x.soonest(3, 1)}, 1, 2, 3, -1);
    }

    static void promise20_notDown() {
        String text = "county places 2;way 0 1;kin at 0 strength ";
        Check.due("strength 2 comes", Check.with(text + "2;").soonest(1, -1), 1);
        Check.due("strength 1 would be down there", Check.with(text + "1;").soonest(1, -1), -1);
        Check.due("strength 1 is here", Check.with(text + "1;").soonest(0, 0), 0);
        Check.due("strength 0 is down here", Check.with(text + "0;").soonest(0, 0), -1);
        Check.due("without kin", new BearerKin().soonest(0, -1), -1);
    }

    static void promise21_noSuchPlaceNoSuchKin() {
        int[] none = {-1, 3, LEAST, MOST};
        for (int k : none) {
            Scenes.refused("place " + k, -2, x -> x.way(k, -1, 0), Scenes.ALL);
            Scenes.refused("place " + k + " ahead of i", -2, x -> x.way(k, -1, -1), Scenes.ALL);
        }
        int[] noKin = {-2, 3, LEAST, MOST};
        for (int p : noKin) {
            Scenes.refused("kin " + p, -2, x -> x.way(0, p, 0), Scenes.ALL);
            Scenes.refused("kin " + p + " ahead of i", -2, x -> x.way(0, p, -1), Scenes.ALL);
        }
    }

    static void promise21_iBelow0() {
        Scenes.refused("-1", -3, x -> x.way(0, -1, -1), Scenes.ALL);
        Scenes.refused("the least", -3, x -> x.way(0, -1, LEAST), Scenes.ALL);
        Check.due("ahead of NONE: it can't be", Check.with(ROAD).way(3, -1, -1), -3);
    }

    static void promise21_notSoMany() {
        BearerKin x = Check.with(ROAD);
        Check.due("here", new long[] {x.way(0, -1, 0), x.way(0, 0, 0)}, -1, -1);
        Check.due("one hour", new long[] {x.way(1, -1, 0), x.way(1, -1, 1), x.way(1, -1, MOST)}, 101, -1, -1);
        Check.due("three hours", new long[] {x.way(2, 1, 0), x.way(2, 1, 1), x.way(2, 1, 2), x.way(2, 1, 3)},
            11, 111, 112, -1);
        Check.due("it can't be", new long[] {x.way(3, -1, 0), x.way(3, 0, 0), x.way(3, 1, MOST)}, -1, -1, -1);
        Check.due("down", Scenes.make(Scenes.DOWN).way(1, 1, 0), -1);
    }

    static void promise21_theFirstOfTheFewest() {
        // to 3 by 1 or by 2; to 4 only by 2
        BearerKin x = Check.with("county places 5;way 0 2;way 2 3;way 1 3;way 0 1;way 2 4;kin at 0;");
        Check.due("to 3", new long[] {x.way(3, -1, 0), x.way(3, -1, 1)}, 101, 103);
        Check.due("to 4", new long[] {x.way(4, -1, 0), x.way(4, -1, 1)}, 102, 104);
        // it can be handed to 1 here or there: here first, as a smaller number
        BearerKin y = Check.with("county places 2;way 0 1;kin at 0;kin at 0;tires:3;");
        Check.due("borne by 1", new long[] {y.way(1, 1, 0), y.way(1, 1, 1)}, 11, 111);
    }

    // ---- promises 22 to 24

    static void promise22_notDownNowToo() {
        String text = "county places 4;way 0 1;way 1 2;kin at 0 strength ";
        long[] due = {0, 1, 3, 7};
        for (int s = 0; s <= 3; s++) {
            Check.due("strength " + s, Check.with(text + s + ";").reach(), due[s]);
        }
        Check.due("without kin", Scenes.make(Scenes.NO_KIN).reach(), 0);
        Check.due("new", new BearerKin().reach(), 0);
        Check.due("all five", Check.with("county places 5;way 0 1;way 0 2;way 0 3;way 3 4;kin at 4;tires:1;").reach(), 31);
    }

    static void promise23_notDownNowToo() {
        Check.due("down", Check.with("county places 1;kin at 0 strength 0;kin at 0;").bearers(), 0);
        Check.due("without kin", Scenes.make(Scenes.NO_KIN).bearers(), 0);
        Check.due("alone", alone(1).bearers(), 1);
        Check.due("the last of three alone", Check.with("county places 2;kin at 0;kin at 0;kin at 1 strength 1;bears 2;")
            .bearers(), 4);
        Check.due("all three", Check.with("county places 1;kin at 0;kin at 0;kin at 0;bears 1;").bearers(), 7);
        // handed to one of strength 1 it is down
        Check.due("one of strength 1", Check.with("county places 1;kin at 0 strength 1;kin at 0 strength 1;").bearers(), 1);
        Check.due("one of strength 2", Check.with("county places 1;kin at 0 strength 1;kin at 0 strength 2;").bearers(), 3);
    }

    static void promise24_asTheyAreDownToo() {
        for (int s = 0; s <= 3; s++) {
            Check.due("strength " + s, alone(s).stands(), s + 1);
        }
        Check.due("without kin", Scenes.make(Scenes.NO_KIN).stands(), 1);
        Check.due("down with others", Scenes.make(Scenes.DOWN).stands(), 1);
        // as they are, and down behind any hour
        Check.due("one hour, alike", Check.with("county places 1;kin at 0;tires:0;").stands(), 2);
        Check.due("one hour, at two places", Check.with("county places 2;way 0 1;kin at 0;tires:0;").stands(), 3);
        Check.due("none changes", Check.with("county places 1;kin at 0;tires:strength;").stands(), 1);
    }

    static void promise24_asManyAsCanBe() {
        BearerKin x = Check.with("county places 5;way 0 1;way 0 2;way 0 3;way 0 4;way 1 2;way 1 3;way 1 4;way 2 3;"
            + "way 2 4;way 3 4;kin at 0;kin at 0;kin at 0;tires:3;may:1=1;");
        Check.due("each at five places, three of whom bear it", x.stands(), 375);
    }

    // ---- "HOURS from now on": what was asked ahead doesn't count

    private static final int STEPS = 12;

    private static void change(BearerKin x, int step) {
        switch (step) {
            case 0:
                Check.tell(x, "county places 3;height 2 1;way 0 1;way 1 2;kin at 0;kin at 0 strength 2;weather 1;"
                    + "tires:strength-bears*weather;may:strength>weather;");
                x.image(0);
                break;
            case 1:
                x.hour(0);
                break;
            case 2:
                x.weather(2);
                break;
            case 3:
                x.hour(11);
                break;
            case 4:
                x.meal(1);
                break;
            case 5:
                x.weather(0);
                break;
            case 6:
                x.undo(2);
                break;
            case 7:
                x.hour(101);
                break;
            case 8:
                x.meal(0);
                break;
            case 9:
                x.restore(0);
                break;
            case 10:
                Check.tell(x, "county places 3;way 0 1;way 1 2;kin at 0;kin at 0 strength 2;weather 1;");
                break;
            default:
                Check.tell(x, "county places 1;kin at 0;weather 1;");
                break;
        }
    }

    private static long[] ask(BearerKin x) {
        Check.fill(x, 0, -1, 0, -1);
        Check.fill(x, 1, 2, 1);
        Check.fill(x, 2, 0, 10);
        return new long[] {x.up(), x.keeping(0), x.keeping(3), x.rows(3), x.needed(4), x.soonest(0, 0), x.soonest(0, -1),
            x.way(0, 0, 0), x.reach(), x.bearers(), x.stands(), x.seen(0), x.seenBy(0, 1), x.suspects(0, 1),
            x.weathers(1), x.attempt(1), x.lasts(), x.best(), x.chance(2, 0), x.mean(2, 0), x.why(10)};
    }

    static void term3_fromNowOnWhateverWasAskedAhead() {
        BearerKin x = new BearerKin();
        for (int step = 0; step < STEPS; step++) {
            change(x, step);
            BearerKin y = new BearerKin();
            for (int i = 0; i <= step; i++) {
                change(y, i);
            }
            Check.due("behind step " + step, ask(x), ask(y));
        }
    }

    // ---- promises 30 and 31

    static void promise30_itIsDown() {
        Scenes.refused("lasts", -5, x -> x.lasts(), ALL_DOWN);
    }

    static void promise31_itIsDown() {
        Scenes.refused("best", -5, x -> x.best(), ALL_DOWN);
    }

    private static void beast(String what, String text, int lasts, int best) {
        BearerKin x = Check.with(text);
        Check.due(what + ", lasts", x.lasts(), lasts);
        Check.due(what + ", best", x.best(), best);
        Check.due(what + ", nothing is done", new long[] {x.count(7), x.count(8)}, 0, 0);
    }

    static void promise30_byEachStrength() {
        // each hour and each weariness take one
        beast("1", "county places 1;kin at 0 strength 1;", 0, -1);
        beast("2", "county places 1;kin at 0 strength 2;", 0, -1);
        beast("3", "county places 1;kin at 0;", 1, 0);
        // only the weariness takes one
        beast("1, none tires", "county places 1;kin at 0 strength 1;tires:strength;", 0, -1);
        beast("2, none tires", "county places 1;kin at 0 strength 2;tires:strength;", 1, 0);
        beast("3, none tires", "county places 1;kin at 0;tires:strength;", 2, 0);
    }

    static void promise30_notDownBehindTheBeastEither() {
        beast("1 behind each hour", "county places 1;kin at 0;tires:1;", 0, -1);
        beast("2 behind each hour", "county places 1;kin at 0;tires:2;", -1, 0);
        beast("3 behind each hour", "county places 1;kin at 0 strength 1;tires:3;", -1, 0);
        beast("0 behind each hour", "county places 1;kin at 0;tires:0;", 0, -1);
    }

    static void promise30_twoByTurns() {
        // behind any hour the bearer has 2 and the other one 3: that one is wearied, then any bearer has 1
        beast("two", TWO, 1, 0);
    }

    static void term3_theBeastMayWearyNone() {
        // a bearer of 3 is down behind the next hour: the beast leaves it so
        beast("strong ones fall", "county places 1;kin at 0 strength 2;tires:if strength=3 then 0 else 3 end;", 1, 0);
    }

    static void term3_theBeastWeariesOthersToo() {
        // the bearer stays at 3; handed over it would be for ever with another one of strength 1
        beast("only a weary other one", "county places 1;kin at 0;kin at 0 strength 1;"
            + "tires:if bears=1 then if kin=1 then 3 else strength-1 end else strength end;", -1, 11);
        beast("once it is weary, it can't be handed it", "county places 1;kin at 0 strength 3;kin at 0 strength 1;"
            + "tires:if bears=1 then if kin=1 then 3 else strength end else strength end;", -1, 11);
    }

    static void promise31_forEverTheFirstByWhichTheyStillCan() {
        String refuge = "height 1 1;way 0 1;tires:if height=1 then 3 else strength-1 end;";
        beast("it must go at once", "county places 2;kin at 0 strength 2;" + refuge, -1, 101);
        beast("it can still rest once", "county places 2;kin at 0 strength 3;" + refuge, -1, 0);
    }

    static void promise31_theFirstByWhichTheyLastSoLong() {
        // a rest leaves 2, wearied 1, and that one can't be kept up; to go leaves 3, wearied 2, then 1
        beast("to go", "county places 2;height 1 1;way 0 1;kin at 0;tires:if height=1 then strength else strength-1 end;",
            2, 101);
    }

    static void promise31_notForOneHour() {
        BearerKin x = alone(2);
        Check.due("NONE", x.best(), -1);
        x.hour(0);
        Check.due("NONE", x.best(), -1);
        x.hour(0);
        Check.due("down", x.best(), -5);
    }
}
