/** Promises 34 to 39: trays, images. */
final class TraysTest {
    private static final String ROAD = "county places 3;way 0 1;way 1 2;kin at 0;weather 4;";

    public static void main(String[] args) {
        numbers();
        writing();
        lists();
        images();
        counts();
        Check.end("TraysTest");
    }

    private static void numbers() {
        BearerKin x = new BearerKin();
        Check.due("34 no tray", x.numbers(4, 0, 1), -2);
        Check.due("34 below", x.numbers(-1, 0, 1), -2);
        Check.due("34 sort", x.numbers(0, 4, 1), -2);
        Check.due("34 sort below", x.numbers(0, -1, 1), -2);
        Check.due("34 sort ahead of how many", x.numbers(0, 4, 41), -2);
        Check.due("34 too many", x.numbers(0, 0, 41), -3);
        Check.due("34 below 0", x.numbers(0, 0, -1), -3);
        Check.due("34 still missing", x.write(0, 0, 1), -6);
        Check.due("34 forty", x.numbers(0, 3, 40), 0);
        Check.due("34 the last", x.write(0, 39, 7), 7);
        Check.due("34 none", x.numbers(1, 3, 0), 0);
        Check.due("34 has none", x.write(1, 0, 1), -7);
        Check.due("34 refused", x.numbers(0, 0, 41), -3);
        Check.due("34 the tray stays", x.write(0, 39, 300), 300);
        BearerKin y = Check.with("county places 1;kin at 0;");
        Check.fill(y, 0, 55, 55);
        y.numbers(0, 1, 1);
        y.numbers(0, 1, 2);
        Check.due("34 all 0: rests", y.perform(0), 2);
    }

    private static void writing() {
        BearerKin x = new BearerKin();
        Check.due("35 no tray", x.write(4, 0, 1), -2);
        Check.due("35 below", x.write(-1, 0, 1), -2);
        Check.due("35 missing", x.write(3, 0, 1), -6);
        for (int sort = 0; sort < 4; sort++) {
            x.numbers(sort, sort, 2);
        }
        Check.due("35 8 bits", new long[] {x.write(0, 0, 127), x.write(0, 1, 128), x.write(0, 1, -129),
            x.write(0, 0, 256)}, 127, -128, 127, 0);
        Check.due("35 16 bits", new long[] {x.write(1, 0, 32767), x.write(1, 1, 32768), x.write(1, 1, 65536)},
            32767, -32768, 0);
        Check.due("35 32 bits", new long[] {x.write(2, 0, Integer.MAX_VALUE), x.write(2, 1, 1L << 31),
            x.write(2, 1, 1L << 32)}, Integer.MAX_VALUE, Integer.MIN_VALUE, 0);
        Check.due("35 64 bits", new long[] {x.write(3, 0, Long.MAX_VALUE), x.write(3, 1, Long.MIN_VALUE)},
            Long.MAX_VALUE, Long.MIN_VALUE);
        Check.due("35 no such number", x.write(0, 2, 1), -7);
        Check.due("35 number below", x.write(0, -1, 1), -7);
    }

    private static void lists() {
        BearerKin x = Check.with(ROAD);
        Check.due("36 no tray", x.lists(4, 0, -1), -2);
        Check.due("36 no place", x.lists(0, 3, -1), -2);
        Check.due("36 no kin", x.lists(0, 0, 1), -2);
        Check.due("36 missing", x.lists(0, 2, -1), -6);
        Check.fill(x, 0, 21, 21, 21);
        Check.due("36 two", x.lists(0, 2, -1), 2);
        // the third number stays: a meal for none
        Check.due("36 the rest stays", x.judge(0, 0), 2);
        Check.due("36 they lead there", x.judge(0, 2), 2);
        Check.fill(x, 0, 0);
        Check.due("36 as far as it has places", x.lists(0, 2, 0), 1);
        Check.due("36 the first", x.judge(0, 2), 1);
        x.numbers(0, 0, 0);
        Check.due("36 it has none", x.lists(0, 2, 0), 0);
        Check.fill(x, 0, 0);
        Check.due("36 here", x.lists(0, 0, -1), 0);
        x.hour(0);
        Check.due("36 it can't be", x.lists(0, 2, -1), -5);
        x.numbers(1, 0, 2);
        x.undo(1);
        Check.due("36 into 8 bits", x.lists(1, 2, -1), 2);
        Check.due("36 they are done", x.perform(1), 2);
        Check.due("36 there", x.count(3), 2);
    }

    private static void images() {
        BearerKin x = Check.with(ROAD);
        Check.due("37 above", x.image(2), -2);
        Check.due("37 below", x.image(-1), -2);
        Check.due("38 above", x.restore(2), -2);
        Check.due("38 below", x.restore(-1), -2);
        Check.due("38 none was made", x.restore(0), -5);
        x.hour(101);
        x.weather(8);
        Check.due("37 made", x.image(1), 0);
        Check.due("37 it can still be undone", x.count(8), 2);
        Check.due("38 the other one wasn't", x.restore(0), -5);
        Check.fill(x, 2, 5);
        Check.tell(x, "county places 1;");
        x.feed(0, 0, 0, 0, 0);
        Check.due("38 restored", x.restore(1), 0);
        Check.due("38 counts", new long[] {x.count(0), x.count(1), x.count(3), x.count(4), x.count(6), x.count(7),
            x.count(8), x.count(9), x.count(10)}, 3, 1, 1, 2, 8, 1, 0, 20, 5);
        Check.due("38 trays stay", x.judge(2, 0), 0);
        Check.due("38 nothing can be undone", x.undo(1), -3);
        x.hour(102);
        Check.due("38 once more", x.restore(1), 0);
        Check.due("38 where", x.count(3), 1);
        x.hour(0);
        x.image(1);
        x.meal(0);
        x.restore(1);
        Check.due("37 in place of the other one", x.kin(0, 2), 1);
        Check.due("38 its way on", x.up(), 0);
        BearerKin y = new BearerKin();
        y.image(0);
        Check.tell(y, ROAD);
        y.restore(0);
        Check.due("38 of a new object", new long[] {y.count(0), y.count(1), y.count(6), y.count(10)}, 1, 0, 0, 0);
    }

    private static void counts() {
        BearerKin x = Check.with("county places 3;way 0 1;kin at 1 strength 2;kin at 1;bears 1;weather 6;");
        x.hour(10);
        x.feed(1, 2, 3, 4, 5);
        long[] counts = new long[14];
        for (int i = 0; i < counts.length; i++) {
            counts[i] = x.count(i - 1);
        }
        Check.due("39 all", counts, -1, 3, 2, 0, 1, 4, 0, 6, 1, 1, 20, 6, -1, -1);
        x.hour(0);
        Check.due("39 down", x.count(5), 1);
        Check.due("39 where it is down", x.count(3), 1);
    }
}
