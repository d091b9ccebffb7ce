/** Promises 25 to 29, 32, 33: seen, tired, chances. */
final class ToldTest {
    private static final String PAIR = "county places 3;way 0 1;way 1 2;kin at 0;kin at 0;";

    public static void main(String[] args) {
        seen();
        seenRefused();
        tired();
        attempts();
        tiredRefused();
        chances();
        chancesRefused();
        Check.end("ToldTest");
    }

    private static void seen() {
        BearerKin x = Check.with(PAIR);
        Check.fill(x, 0, 0);
        // rest, handed to 1, 1 goes
        Check.due("25 still here", x.seen(0), 3);
        Check.due("26 first", x.seenBy(0, 0), 0);
        Check.due("27 either", x.suspects(0, 0), 3);
        Check.fill(x, 0, 1);
        Check.due("25 gone", x.seen(0), 1);
        Check.due("26 by going", x.seenBy(0, 0), 101);
        Check.due("27 the one that goes", x.suspects(0, 0), 1);
        Check.fill(x, 0, -1);
        Check.due("25 not seen", x.seen(0), 4);
        Check.fill(x, 0, 0, 1);
        // 0 comes to 1 behind rest or behind the other one went; 1 comes to 1 behind it was handed it
        Check.due("25 here, then gone", x.seen(0), 3);
        Check.due("26 the first", new long[] {x.seenBy(0, 0), x.seenBy(0, 1), x.seenBy(0, 2)}, 0, 101, -1);
        Check.due("27 behind the first hour", x.suspects(0, 0), 3);
        Check.due("27 behind the second hour", x.suspects(0, 1), 3);
        Check.fill(x, 0, 2);
        Check.due("25 not so soon", x.seen(0), 0);
        Check.due("26 there are none", x.seenBy(0, 0), -1);
        Check.due("27 there are none", x.suspects(0, 0), 0);
        Check.fill(x, 0, 1, 2, -1);
        // the bearer of strength 1 at 2 would be down by any hour
        Check.due("25 down in none", x.seen(0), 0);
        Check.due("26 down in none", x.seenBy(0, 0), -1);
        Check.fill(x, 0, -1, 2);
        Check.due("25 over the middle", x.seen(0), 1);
        Check.due("26 over the middle", new long[] {x.seenBy(0, 0), x.seenBy(0, 1)}, 101, 102);
        Check.fill(x, 0, -1, -1, -1, -1, -1, -1, -1, -1);
        Check.due("25 eight, as rows", x.seen(0), x.rows(8));
        Check.due("27 the eighth", x.suspects(0, 7), 3);
        BearerKin y = Check.with("county places 1;kin at 0 strength 0;");
        Check.fill(y, 0, 0);
        Check.due("25 down", y.seen(0), 0);
        Check.due("26 down", y.seenBy(0, 0), -1);
        Check.due("27 down", y.suspects(0, 0), 0);
    }

    private static void seenRefused() {
        BearerKin x = Check.with(PAIR);
        Check.due("25 no tray", x.seen(4), -2);
        Check.due("25 below", x.seen(-1), -2);
        Check.due("25 missing", x.seen(0), -6);
        Check.due("26 no tray", x.seenBy(4, -1), -2);
        Check.due("26 missing", x.seenBy(0, -1), -6);
        Check.due("27 no tray", x.suspects(4, -1), -2);
        Check.due("27 missing", x.suspects(0, -1), -6);
        x.numbers(0, 0, 0);
        Check.due("25 no numbers", x.seen(0), -4);
        Check.due("26 no numbers", x.seenBy(0, -1), -4);
        Check.due("27 no numbers", x.suspects(0, -1), -4);
        x.numbers(0, 0, 9);
        Check.due("25 nine", x.seen(0), -4);
        Check.fill(x, 0, 3, 3, 3, 3, 3, 3, 3, 3, 3);
        Check.due("25 nine ahead of no place", x.seen(0), -4);
        Check.fill(x, 0, 0, 3);
        Check.due("25 no place", x.seen(0), -3);
        Check.fill(x, 0, 0, -2);
        Check.due("25 not NONE", x.seen(0), -3);
        Check.fill(x, 0, 1L << 32);
        Check.due("25 far above", x.seen(0), -3);
        Check.fill(x, 0, 0, 0);
        Check.due("26 below", x.seenBy(0, -1), -3);
        Check.due("26 not so many", x.seenBy(0, 2), -1);
        Check.due("27 below", x.suspects(0, -1), -3);
        Check.due("27 no such hour", x.suspects(0, 2), -7);
        Check.due("27 no such hour at all", x.suspects(0, Integer.MAX_VALUE), -7);
    }

    private static void tired() {
        BearerKin x = Check.with("county places 1;kin at 0;tires: strength-weather;weather 6;");
        Check.fill(x, 0, 1);
        Check.due("28 two", x.weathers(0), 4);
        Check.fill(x, 0, 0);
        Check.due("28 three and more", x.weathers(0), 1016);
        Check.fill(x, 0, 2, 1, 0, 0, 0);
        Check.due("28 one, and down it stays", x.weathers(0), 2);
        Check.fill(x, 0, 1, 2);
        Check.due("28 none", x.weathers(0), 0);
        Check.due("28 the weather stays", x.count(6), 6);
        BearerKin y = Check.with("county places 1;kin at 0 strength 0;kin at 0;tires: 3;");
        Check.fill(y, 0, 0, 0);
        Check.due("28 it is down", y.weathers(0), 1023);
        Check.fill(y, 0, 3);
        Check.due("28 down it stays so", y.weathers(0), 0);
        BearerKin z = Check.with("county places 1;kin at 0;kin at 0;bears 1;");
        Check.fill(z, 0, 2, 1, 0);
        Check.due("28 without a law", z.weathers(0), 1023);
    }

    private static void attempts() {
        String law = "tires: if goes=1 then strength-weather+5 else strength-weather end;";
        BearerKin x = Check.with("county places 2;way 0 1;kin at 0;" + law);
        Check.fill(x, 0, 0);
        Check.due("29 to go tells more", x.attempt(0), 101);
        Check.fill(x, 0, 1);
        Check.due("29 one is known already", x.attempt(0), 0);
        Check.fill(x, 0, 1, 3);
        Check.due("29 there are none", x.attempt(0), -1);
        BearerKin y = Check.with("county places 2;kin at 0;" + law);
        Check.fill(y, 0, 0);
        Check.due("29 nothing tells more: the first", y.attempt(0), 0);
        // 5 to 9 lead to 0, the others can't go and stay as now
        BearerKin z = Check.with("county places 2;way 0 1;kin at 0;tires: strength-3;may: weather>4;");
        Check.fill(z, 0, 0);
        Check.due("29 as now, if it can't be", z.attempt(0), 101);
        BearerKin w = Check.with("county places 1;kin at 0;kin at 0;tires: if bears=kin then strength else "
            + "strength-weather end;");
        // rest: 1 ends by 3, 2, 1, 0; handed to 1: 0 bears nothing, kin 0 is not bears: strength stays for both
        Check.fill(w, 0, 3);
        Check.due("29 of those that are left", w.weathers(0), 1);
        Check.due("29 one is left", w.attempt(0), 0);
        BearerKin v = Check.with("county places 1;kin at 0 strength 0;tires: strength-weather;");
        Check.fill(v, 0, 0);
        Check.due("29 down", v.attempt(0), 0);
        Check.due("29 nothing was done", x.count(8), 0);
    }

    private static void tiredRefused() {
        BearerKin x = Check.with(PAIR);
        Check.due("28 no tray", x.weathers(4), -2);
        Check.due("29 no tray", x.attempt(-1), -2);
        Check.due("28 missing", x.weathers(0), -6);
        Check.due("29 missing", x.attempt(0), -6);
        x.numbers(0, 0, 0);
        Check.due("28 no numbers", x.weathers(0), -4);
        Check.due("29 no numbers", x.attempt(0), -4);
        x.numbers(0, 0, 9);
        Check.due("28 nine", x.weathers(0), -4);
        Check.due("29 nine", x.attempt(0), -4);
        Check.fill(x, 0, 0, 4);
        Check.due("28 above", x.weathers(0), -3);
        Check.due("29 above", x.attempt(0), -3);
        Check.fill(x, 0, -1);
        Check.due("28 NONE is no strength", x.weathers(0), -3);
        BearerKin y = new BearerKin();
        Check.fill(y, 0, 4);
        Check.due("28 the number ahead of no kin", y.weathers(0), -3);
        Check.fill(y, 0, 0);
        Check.due("28 no kin", y.weathers(0), -5);
        Check.due("29 no kin", y.attempt(0), -5);
    }

    private static long[] both(BearerKin x, int tray) {
        return new long[] {x.chance(tray, 0), x.chance(tray, 1), x.mean(tray, 0), x.mean(tray, 1)};
    }

    private static void chances() {
        BearerKin x = Check.with("county places 1;kin at 0;");
        Check.fill(x, 0, 0);
        Check.due("32 33 one hour", both(x, 0), 1, 1, 19, 10);
        Check.fill(x, 0, 0, 0);
        Check.due("32 33 two hours", both(x, 0), 81, 100, 81, 100);
        Check.fill(x, 0, 0, 0, 0);
        Check.due("32 33 never", both(x, 0), 0, 1, 0, 1);
        Check.fill(x, 0, 10, 0);
        Check.due("32 33 what can't be is a rest", both(x, 0), 81, 100, 81, 100);
        Check.due("32 nothing was done", x.count(7), 0);
        BearerKin y = Check.with("county places 1;kin at 0;kin at 0 strength 0;kin at 0 strength 1;tires: strength;");
        Check.fill(y, 0, 0);
        // of 4 together the lots of 0 and 2 take one each; 1 has none
        Check.due("32 33 three kin", both(y, 0), 1, 1, 19, 5);
        BearerKin z = Check.with("county places 1;kin at 0 strength 1;kin at 0;");
        Check.fill(z, 0, 0, 0, 0, 0, 0, 0);
        Check.due("33 down by the hour: no lot any more", both(z, 0), 0, 1, 3, 1);
        BearerKin w = Check.with("county places 1;kin at 0 strength 1;kin at 0 strength 2;tires: strength;");
        Check.fill(w, 0, 0, 0);
        // by lots: 0 first: 2; 1, 0: 1; 1, 1: 1; 1, none: 2; none, 0: 2; none, 1: 2; none twice: 3
        Check.due("33 down by a lot", both(w, 0), 81, 100, (2 * 10 + 1 + 1 + 2 * 8 + 2 * 8 + 2 * 8 + 3 * 64) / 2, 50);
        Check.fill(w, 0, 0, 0, 0, 0, 0, 0);
        Check.due("32 six hours", w.chance(0, 0), 531441);
        Check.due("32 six hours", w.chance(0, 1), 1000000);
        BearerKin v = Check.with("county places 2;way 0 1;kin at 0;kin at 0;may: strength>2;");
        Check.fill(v, 0, 11, 101);
        // 11 leaves 3 and 2; 0 wearied by a lot can't go: it rests and comes back to 3, else it goes and stays 3
        // behind 11: 9 of 10 ways 0 has 3 and goes; its strength is 3 behind both; the bearer comes to 1 or 0
        Check.due("32 to go, or to rest", new long[] {v.chance(0, 0), v.chance(0, 1)}, 81, 100);
    }

    private static void chancesRefused() {
        BearerKin x = Check.with("county places 1;kin at 0;");
        Check.due("32 no tray", x.chance(4, 0), -2);
        Check.due("32 what", x.chance(0, 2), -2);
        Check.due("32 what below", x.chance(0, -1), -2);
        Check.due("32 missing", x.chance(0, 0), -6);
        Check.due("33 no tray", x.mean(-1, 0), -2);
        Check.due("33 what", x.mean(0, 2), -2);
        Check.due("33 missing", x.mean(0, 1), -6);
        x.numbers(0, 2, 0);
        Check.due("32 no numbers", x.chance(0, 0), -4);
        Check.due("33 no numbers", x.mean(0, 0), -4);
        x.numbers(0, 2, 7);
        Check.due("32 seven", x.chance(0, 0), -4);
        Check.due("33 seven", x.mean(0, 0), -4);
        for (long none : new long[] {-1, 1, 9, 11, 19, 20, 30, 101, 110, 199, 200, 1L << 32}) {
            Check.fill(x, 0, 0, none);
            Check.due("32 no hour " + none, x.chance(0, 0), -3);
            Check.due("33 no hour " + none, x.mean(0, 0), -3);
        }
        Check.fill(x, 0, 100);
        Check.due("32 an hour that can't be", x.chance(0, 0), 1);
        x.hour(0);
        x.hour(0);
        x.hour(0);
        Check.due("32 down", x.chance(0, 0), -5);
        Check.due("33 down", x.mean(0, 0), -5);
        Check.fill(x, 0, 11);
        Check.due("32 the number ahead of down", x.chance(0, 0), -3);
    }
}
