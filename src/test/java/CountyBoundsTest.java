/** Bounds of promises 1 to 8, and those that "Terms" names in ==== 2. for what an hour is and brings. */
final class CountyBoundsTest {
    private static final int LEAST = Integer.MIN_VALUE;
    private static final int MOST = Integer.MAX_VALUE;

    public static void main(String[] args) {
        Check.runAll(CountyBoundsTest.class);
    }

    // ---- promise 1

    static void promise01_aNewObject() {
        BearerKin x = new BearerKin();
        long[] counts = new long[11];
        for (int i = 0; i < counts.length; i++) {
            counts[i] = x.count(i);
        }
        Check.due("counts", counts, 1, 0, -1, -1, 0, 1, 0, 0, 0, 0, 0);
        Check.due("its place", new long[] {x.place(0, 0), x.place(0, 1), x.place(0, 2)}, 0, 0, 0);
        Check.due("a second place", x.place(1, 0), -2);
        Check.due("one of the kin", x.kin(0, 0), -2);
        for (int tray = 0; tray < 4; tray++) {
            Check.due("trays are missing", x.write(tray, 0, 0), -6);
        }
        for (int i = 0; i < 2; i++) {
            Check.due("images aren't made", x.restore(i), -5);
        }
        Check.due("nothing can be undone", x.undo(1), -3);
        Check.due("no fault", new long[] {x.fault(0), x.fault(1)}, 0, -1);
    }

    static void promise01_objectsAreApart() {
        BearerKin x = Check.with("county places 2;kin at 0;weather 4;");
        BearerKin y = new BearerKin();
        x.numbers(0, 0, 1);
        x.image(0);
        Check.due("another one", new long[] {y.count(0), y.count(1), y.count(6), y.perform(0), y.restore(0)},
            1, 0, 0, -6, -5);
    }

    // ---- promise 2

    static void promise02_theHighestByteOfEachIntFirst() {
        BearerKin x = new BearerKin();
        Check.due("20 bytes", x.feed(0x636f756e, 0x74792070, 0x6c616365, 0x7320343b, 0x20202020), 20);
        Check.due("they are read", x.county(20), 1);
        Check.due("places", x.count(0), 4);
        Check.due("a byte of 255", x.feed(-1, 0, 0, 0, 0), 20);
        Check.due("no token begins so", x.county(1), -31);
    }

    static void promise02_upTo900() {
        BearerKin x = new BearerKin();
        for (int i = 1; i <= 45; i++) {
            Check.due("how many", x.feed(MOST, LEAST, -1, 0, i), 20 * i);
            Check.due("count", x.count(9), 20 * i);
        }
        Check.due("more than 900", x.feed(0, 0, 0, 0, 0), -5);
        Check.due("how many stay", x.count(9), 900);
        x.county(1);
        Check.due("an empty one again", x.feed(0, 0, 0, 0, 0), 20);
    }

    static void promise02_moreThan900Refused() {
        Scenes.refused("a full tape", -5, x -> x.feed(0x20202020, 0x20202020, 0, -1, 7), Scenes.DOWN);
    }

    static void promise02_behindThoseOnTheTape() {
        BearerKin x = new BearerKin();
        Check.feed(x, "county places 5; bla");
        Check.feed(x, "moo?");
        Check.due("both", x.count(9), 40);
        Check.due("the first is read first", x.county(16), 1);
        Check.due("all of the tape is gone", x.count(9), 0);
        Check.due("nothing of it is left to read", x.county(1), -3);
    }

    // ---- promise 3

    static void promise03_nBelow0() {
        Scenes.refused("-1", -3, x -> x.county(-1), Scenes.ALL);
        Scenes.refused("the least", -3, x -> x.county(LEAST), Scenes.ALL);
    }

    static void promise03_nAboveWhatThereIs() {
        Scenes.refused("one more", -3, x -> x.county(x.count(9) + 1), Scenes.ALL);
        Scenes.refused("the most", -3, x -> x.county(MOST), Scenes.ALL);
        Scenes.refused("901", -3, x -> x.county(901), Scenes.ALL);
    }

    static void promise03_n0IsAnEmptyText() {
        BearerKin x = new BearerKin();
        Check.due("on an empty tape", x.county(0), -32);
        Check.due("its fault", new long[] {x.fault(0), x.fault(1)}, 2, 0);
        Check.feed(x, "county places 2;");
        Check.due("on a tape", x.county(0), -32);
        Check.due("the tape is empty then", x.count(9), 0);
    }

    static void promise03_allOrNearlyAllThereIs() {
        BearerKin x = new BearerKin();
        x.feed(0x20202063, 0x6f756e74, 0x7920706c, 0x61636573, 0x2020313b);
        Check.due("all of it", x.county(20), 1);
        x.feed(0x20202063, 0x6f756e74, 0x7920706c, 0x61636573, 0x2020313b);
        Check.due("one byte less", x.county(19), -32);
        Check.due("there it ends", x.fault(1), 19);
    }

    static void promise03_theFirstNBytesAlone() {
        BearerKin x = new BearerKin();
        Check.feed(x, "county places 12;");
        Check.due("a digit behind them isn't read", x.county(15), -32);
        Check.due("it ends there", x.fault(1), 15);
        Check.feed(x, "county places 5;weather 0091;");
        Check.due("a fourth digit behind them isn't read", x.county(27), -32);
        Check.due("it ends there", x.fault(1), 27);
        Check.feed(x, "county places 1;weathers");
        Check.due("a letter behind them isn't read", x.county(23), -32);
        Check.due("it ends there", x.fault(1), 23);
        Check.feed(x, "county places 1;?");
        Check.due("no token behind them", x.county(16), 1);
        // nor what was on the tape ahead of it
        Check.feed(x, "county places 1;weather 9;");
        x.county(0);
        Check.feed(x, "county places 2;");
        Check.due("twenty bytes are there", x.county(26), -3);
        Check.due("they are read", x.county(20), 1);
        Check.due("weather", x.count(6), 0);
    }

    static void promise03_aFaultLeavesAllButTheTape() {
        String[] texts = {"county places 1;!", "county places 1;way;", "county places 7;", "county places 1;"
            + "kin at 0;kin at 0;kin at 0;kin at 0;"};
        for (int kind = 1; kind <= 4; kind++) {
            String text = texts[kind - 1];
            for (String scene : Scenes.ALL) {
                Scenes.refusedBut("tape|fault", text, -30 - kind, x -> {
                    // what is on the tape already would be read first
                    x.county(0);
                    return Check.tell(x, text);
                }, scene);
                BearerKin y = Scenes.make(scene);
                y.county(0);
                Check.tell(y, text);
                Check.due("the tape is empty behind " + text, y.count(9), 0);
                Check.due("the fault of " + text, y.fault(0), kind);
            }
        }
    }

    static void promise03_hoursAre0NothingCanBeUndone() {
        BearerKin x = Scenes.make(Scenes.RICH);
        Check.due("hours, what can be undone, ahead", new long[] {x.count(7), x.count(8)}, 6, 10);
        Check.due("the text on the tape", x.county(40), 3);
        Check.due("hours, what can be undone, bytes, lines", new long[] {x.count(7), x.count(8), x.count(9), x.count(10)},
            0, 0, 0, 3);
        Check.due("undo", x.undo(1), -3);
        Check.due("nothing of the county ahead", new long[] {x.count(0), x.count(1), x.place(2, 0), x.place(1, 0),
            x.place(0, 1), x.count(6)}, 4, 0, 7, 0, 0, 8);
        Check.due("trays stay", x.write(1, 1, 5), 5);
        Check.due("images stay", x.restore(1), 0);
    }

    static void promise03_linesCountyToo() {
        Check.due("county alone", Check.tell(new BearerKin(), "county places 1;"), 1);
        Check.due("one more", Check.tell(new BearerKin(), "county places 1;weather 1;"), 2);
        Check.due("struck ones, too", Check.tell(new BearerKin(), "county places 1;weather 1;weather 2;"), 3);
    }

    static void promise03_lawsAreOfThisCountyAlone() {
        BearerKin x = Check.with("county places 2;way 0 1;kin at 0;tires:2;may:1=0;");
        Check.due("by a law", new long[] {x.by(0, 0), x.why(101)}, 2, 4);
        Check.tell(x, "county places 2;way 0 1;kin at 0;tires:1;may:1=1;");
        Check.due("by another one", new long[] {x.by(0, 0), x.why(101)}, 1, 0);
        Check.tell(x, "county places 2;way 0 1;kin at 0;may:0=1;");
        Check.due("without one", new long[] {x.by(0, 0), x.why(101)}, 2, 4);
        x.image(0);
        Check.tell(x, "county places 2;way 0 1;kin at 0;tires:3;");
        Check.due("without the other one", new long[] {x.by(0, 0), x.why(101)}, 3, 0);
        x.restore(0);
        Check.due("those of an image", new long[] {x.by(0, 0), x.why(101)}, 2, 4);
    }

    static void promise03_manyCountiesEachWithItsOwnLaws() {
        BearerKin x = new BearerKin();
        int drawn = 1;
        for (int i = 0; i < 60; i++) {
            drawn = (drawn * 75 + 74) % 65537;
            int v = drawn % 4;
            int may = drawn / 4 % 2;
            Check.tell(x, "county places 2;way 0 1;kin at 0;tires:" + v + ";may:1=" + may + ";");
            Check.due("tires, county " + i, x.by(0, 0), v);
            Check.due("may, county " + i, x.why(101), may == 1 ? 0 : 4);
        }
    }

    static void promise03_lawsOfCountiesFarBehind() {
        String text = "county places 2;way 0 1;kin at 0;";
        for (int gap = 1; gap <= 20; gap++) {
            for (int may = 0; may <= 1; may++) {
                BearerKin x = new BearerKin();
                Check.tell(x, text + "may:1=" + may + ";tires:1;");
                Check.due("the first county", new long[] {x.why(101), x.by(0, 0)}, may == 1 ? 0 : 4, 1);
                for (int i = 1; i < gap; i++) {
                    Check.tell(x, text);
                    x.why(0);
                }
                Check.tell(x, text + "may:1=" + (1 - may) + ";tires:2;");
                Check.due("the " + gap + "th behind it", new long[] {x.why(101), x.by(0, 0)}, may == 1 ? 4 : 0, 2);
            }
        }
    }

    // ---- promise 4

    static void promise04_of0And1() {
        BearerKin x = new BearerKin();
        Check.tell(x, "county places 0;");
        Check.due("fault, place, others", new long[] {x.fault(0), x.fault(1), x.fault(-1), x.fault(2), x.fault(LEAST),
            x.fault(MOST)}, 3, 14, -1, -1, -1, -1);
    }

    static void promise04_withoutAFault() {
        BearerKin x = new BearerKin();
        Check.due("none was read", new long[] {x.fault(0), x.fault(1)}, 0, -1);
        Check.tell(x, "county places 0;");
        Check.tell(x, "county places 1;");
        Check.due("none behind one", new long[] {x.fault(0), x.fault(1)}, 0, -1);
    }

    static void promise04_ofTheLatestThatWasRead() {
        BearerKin x = new BearerKin();
        Check.tell(x, "county places 0;");
        x.county(-1);
        x.county(1);
        Check.due("a refused one isn't read", new long[] {x.fault(0), x.fault(1)}, 3, 14);
        Check.tell(x, "!");
        Check.due("the later one", new long[] {x.fault(0), x.fault(1)}, 1, 0);
    }

    // ---- promise 5

    static void promise05_noSuchPlace() {
        for (int n = 1; n <= 5; n++) {
            BearerKin x = Check.with("county places " + n + ";");
            for (int what = 0; what <= 2; what++) {
                Check.due("below", x.place(-1, what), -2);
                Check.due("the first", x.place(0, what), 0);
                Check.due("the last", x.place(n - 1, what), 0);
                Check.due("one more", x.place(n, what), -2);
                Check.due("the least", x.place(LEAST, what), -2);
                Check.due("the most", x.place(MOST, what), -2);
            }
        }
        Scenes.refused("a place", -2, x -> x.place(x.count(0), 0), Scenes.ALL);
    }

    static void promise05_noSuchWhat() {
        int[] none = {-1, 3, LEAST, MOST};
        for (int what : none) {
            Scenes.refused("what " + what, -2, x -> x.place(0, what), Scenes.ALL);
        }
    }

    static void promise05_waysAndKinAsBits() {
        BearerKin x = Check.with("county places 5;way 0 4;way 0 1;way 0 2;way 0 3;kin at 4;kin at 4;kin at 4;");
        Check.due("ways of 0", x.place(0, 1), 30);
        Check.due("ways of 4", x.place(4, 1), 1);
        Check.due("kin at 4", x.place(4, 2), 7);
        Check.due("kin at 0", x.place(0, 2), 0);
    }

    // ---- promise 6

    static void promise06_noSuchKin() {
        String text = "county places 1;";
        for (int n = 0; n <= 3; n++) {
            BearerKin x = Check.with(text);
            for (int what = 0; what <= 3; what++) {
                Check.due("below", x.kin(-1, what), -2);
                Check.due("one more", x.kin(n, what), -2);
                Check.due("the least", x.kin(LEAST, what), -2);
                Check.due("the most", x.kin(MOST, what), -2);
                if (n > 0) {
                    Check.due("the last", x.kin(n - 1, what), new long[] {0, n, 3, n == 1 ? 1 : 0}[what]);
                }
            }
            text += "kin at 0 age " + (n + 1) + ";";
        }
        Scenes.refused("kin", -2, x -> x.kin(x.count(1), 0), Scenes.ALL);
    }

    static void promise06_noSuchWhat() {
        int[] none = {-1, 4, LEAST, MOST};
        for (int what : none) {
            Scenes.refused("what " + what, -2, x -> x.kin(0, what), Scenes.ALL);
        }
    }

    static void promise06_theBearer() {
        BearerKin x = Check.with("county places 1;kin at 0;kin at 0;kin at 0;bears 1;");
        Check.due("1 of three", new long[] {x.kin(0, 3), x.kin(1, 3), x.kin(2, 3)}, 0, 1, 0);
        x.hour(12);
        Check.due("2 of three", new long[] {x.kin(0, 3), x.kin(1, 3), x.kin(2, 3)}, 0, 0, 1);
        for (int i = 0; i < 3; i++) {
            x.hour(0);
        }
        Check.due("when it is down, too", new long[] {x.count(5), x.kin(2, 2), x.kin(2, 3)}, 1, 0, 1);
    }

    // ---- promise 7, and DEEDS

    /** Whether a number tells an hour of so many kin and places. */
    private static boolean tellsAnHour(int deed, int kin, int places) {
        for (int p = 0; p < kin; p++) {
            for (int k = 0; k < places; k++) {
                if (deed == 100 + 10 * p + k) {
                    return true;
                }
            }
            if (deed == 10 + p) {
                return true;
            }
        }
        return deed == 0;
    }

    static void promise07_aNumberThatTellsNone() {
        for (int places = 1; places <= 5; places++) {
            StringBuilder text = new StringBuilder("county places " + places + ";");
            for (int kin = 0; kin <= 3; kin++) {
                BearerKin x = Check.with(text.toString());
                for (int deed = -12; deed <= 212; deed++) {
                    boolean none = x.why(deed) == 1;
                    Check.due(kin + " kin, " + places + " places, " + deed, none ? 0 : 1,
                        tellsAnHour(deed, kin, places) ? 1 : 0);
                }
                Check.due("the least", x.why(LEAST), 1);
                Check.due("the most", x.why(MOST), 1);
                text.append("kin at 0;");
            }
        }
    }

    static void promise07_noneAheadOfAll() {
        BearerKin x = Scenes.make(Scenes.DOWN);
        Check.due("ahead of down", new long[] {x.why(12), x.why(102), x.why(120), x.why(1), x.why(20), x.why(30)},
            1, 1, 1, 1, 1, 1);
        BearerKin y = Scenes.make(Scenes.NO_KIN);
        Check.due("without kin", new long[] {y.why(10), y.why(100), y.why(0)}, 1, 1, 2);
    }

    static void promise07_downAheadOf3And4() {
        BearerKin x = Check.with("county places 3;way 0 1;kin at 0 strength 0;kin at 1 strength 0;may:1=0;");
        Check.due("rest", x.why(0), 2);
        Check.due("to hand it to the bearer", x.why(10), 2);
        Check.due("to hand it to another place", x.why(11), 2);
        Check.due("no way", x.why(102), 2);
        Check.due("the law may", x.why(101), 2);
    }

    static void promise07_threeAheadOf4() {
        BearerKin x = Check.with("county places 3;way 0 1;kin at 0;kin at 1 strength 0;may:1=0;");
        Check.due("too weak, at another place", x.why(11), 3);
        Check.due("no way, and not by the law", x.why(102), 3);
        Check.due("by a way, but not by the law", x.why(101), 4);
    }

    static void term2_handToOneAtTheSamePlace() {
        BearerKin x = Check.with("county places 2;way 0 1;kin at 1;kin at 1;kin at 0;bears 1;");
        Check.due("at the same", x.why(10), 0);
        Check.due("at another", x.why(12), 3);
        Check.due("itself", x.why(11), 3);
        x.hour(121);
        Check.due("it came", x.why(12), 0);
    }

    static void term2_handToAStrengthOf1AtLeast() {
        for (int s = 0; s <= 3; s++) {
            BearerKin x = Check.with("county places 1;kin at 0;kin at 0 strength " + s + ";");
            Check.due("strength " + s, x.why(11), s == 0 ? 4 : 0);
        }
        BearerKin y = Check.with("county places 1;kin at 0;kin at 0 strength 0;may:1=1;tires:3;");
        Check.due("whatever the laws are", y.why(11), 4);
    }

    static void term2_goByAWay() {
        BearerKin x = Check.with("county places 5;way 0 4;way 1 2;kin at 0;kin at 4;");
        Check.due("kin 0", new long[] {x.why(100), x.why(101), x.why(102), x.why(103), x.why(104)}, 3, 3, 3, 3, 0);
        Check.due("kin 1", new long[] {x.why(110), x.why(111), x.why(112), x.why(113), x.why(114)}, 0, 3, 3, 3, 3);
    }

    static void term2_goWithoutALawAStrengthOf1AtLeast() {
        for (int s = 0; s <= 3; s++) {
            BearerKin x = Check.with("county places 2;way 0 1;kin at 0;kin at 0 strength " + s + ";");
            Check.due("strength " + s, x.why(111), s == 0 ? 4 : 0);
        }
    }

    static void term2_goByALawWhateverTheStrength() {
        for (int s = 0; s <= 3; s++) {
            String text = "county places 2;way 0 1;kin at 0;kin at 0 strength " + s + ";";
            Check.due("strength " + s, Check.with(text + "may:1=1;").why(111), 0);
            Check.due("strength " + s, Check.with(text + "may:1=0;").why(111), 4);
            Check.due("strength " + s, Check.with(text + "may:strength<2;").why(111), s < 2 ? 0 : 4);
        }
    }

    static void term2_comparisonsOnTheirBound() {
        BearerKin x = Check.with("county places 1;kin at 0;tires:if 1<1 then 1 else 0 end+if 1>1 then 1 else 0 end"
            + "+if 1=1 then 1 else 0 end+if 1<2 then 1 else 0 end;");
        Check.due("1<1, 1>1 don't hold, 1=1, 1<2 do", x.by(0, 0), 2);
        BearerKin y = Check.with("county places 1;kin at 0;tires:if 2>1 then 1 else 0 end+if 2<1 then 1 else 0 end"
            + "+if 2=1 then 1 else 0 end;");
        Check.due("2>1 holds", y.by(0, 0), 1);
        BearerKin z = Check.with("county places 1;kin at 0;tires:if 0-1<0 then 1 else 0 end+if 0>0-1 then 1 else 0 end"
            + "+if 0-1=1 then 1 else 0 end;");
        Check.due("below 0", z.by(0, 0), 2);
    }

    // ---- down

    static void term2_downByTheBearersStrengthAlone() {
        for (int s = 0; s <= 3; s++) {
            BearerKin x = Check.with("county places 1;kin at 0 strength " + s + ";kin at 0 strength 0;");
            Check.due("the bearer's " + s, x.count(5), s == 0 ? 1 : 0);
            Check.due("hours with " + s, x.why(0), s == 0 ? 2 : 0);
            BearerKin y = Check.with("county places 1;kin at 0 strength " + s + ";kin at 0;bears 1;");
            Check.due("another one's " + s, y.count(5), 0);
        }
    }

    static void term2_withoutKinItIsDown() {
        BearerKin x = Scenes.make(Scenes.NO_KIN);
        Check.due("down", x.count(5), 1);
        Check.due("no hours", x.hour(0), -12);
    }

    // ---- promise 8, and what an hour brings

    static void promise08_noSuchKin() {
        int[] none = {-1, 3, LEAST, MOST};
        for (int p : none) {
            Scenes.refused("kin " + p, -2, x -> x.by(0, p), Scenes.ALL);
            Scenes.refused("kin " + p + " ahead of an hour that can't be", -2, x -> x.by(20, p), Scenes.ALL);
        }
        Scenes.refused("one more", -2, x -> x.by(0, x.count(1)), Scenes.ALL);
    }

    static void promise08_theHourCantBe() {
        int[] none = {-1, 1, 12, 20, 30, 99, 100, 120, 122, 200, LEAST, MOST};
        for (int deed : none) {
            Scenes.refused("hour " + deed, -5, x -> x.by(deed, 0), Scenes.RICH);
        }
        Scenes.refused("down", -5, x -> x.by(0, 1), Scenes.DOWN);
    }

    static void promise08_ofEachOfTheKin() {
        BearerKin x = Check.with("county places 2;way 0 1;kin at 0;kin at 0 strength 1;kin at 0 strength 0;");
        Check.due("rest", new long[] {x.by(0, 0), x.by(0, 1), x.by(0, 2)}, 2, 2, 1);
        Check.due("handed", new long[] {x.by(11, 0), x.by(11, 1), x.by(11, 2)}, 3, 0, 1);
        Check.due("the bearer goes", new long[] {x.by(101, 0), x.by(101, 1), x.by(101, 2)}, 2, 2, 1);
        Check.due("another goes", new long[] {x.by(111, 0), x.by(111, 1), x.by(111, 2)}, 2, 1, 1);
        Check.due("nothing is done", new long[] {x.count(4), x.count(7), x.count(8)}, 4, 0, 0);
    }

    static void term2_withoutALaw0AtLeast3AtMost() {
        BearerKin x = Check.with("county places 1;kin at 0 strength 1;kin at 0;kin at 0 strength 2;");
        Check.due("the bearer of 1, others of 3 and 2", new long[] {x.by(0, 0), x.by(0, 1), x.by(0, 2)}, 0, 3, 3);
        BearerKin y = Check.with("county places 1;kin at 0 strength 3;kin at 0 strength 1;");
        Check.due("one of 3 that bore, one of 1 that bears", new long[] {y.by(11, 0), y.by(11, 1)}, 3, 0);
    }

    static void term2_byALaw0AtLeast3AtMost() {
        int[] sums = {-1000000, -999, -2, -1, 0, 1, 2, 3, 4, 5, 999, 1000000};
        for (int v : sums) {
            String sum = v == -1000000 ? "0-999*999*999" : v == 1000000 ? "999*999*999" : v < 0 ? "0-" + -v : "" + v;
            BearerKin x = Check.with("county places 1;kin at 0;tires:" + sum + ";");
            Check.due("" + v, x.by(0, 0), Math.max(0, Math.min(3, v)));
        }
    }

    static void term2_byWhatWasAheadBearerAndPlacesAsTheyAreThen() {
        String text = "county places 2;height 0 1;height 1 2;way 0 1;kin at 0;kin at 0 strength 2;";
        BearerKin x = Check.with(text + "tires:height;");
        Check.due("heights, rest", new long[] {x.by(0, 0), x.by(0, 1)}, 1, 1);
        Check.due("heights, 1 goes", new long[] {x.by(111, 0), x.by(111, 1)}, 1, 2);
        BearerKin y = Check.with(text + "tires:bears+bears+goes;");
        Check.due("bears, handed", new long[] {y.by(11, 0), y.by(11, 1)}, 0, 2);
        Check.due("bears and goes", new long[] {y.by(101, 0), y.by(101, 1)}, 3, 0);
        Check.due("another goes", new long[] {y.by(111, 0), y.by(111, 1)}, 2, 1);
        BearerKin z = Check.with(text + "tires:strength;");
        Check.due("strengths that were ahead", new long[] {z.by(11, 0), z.by(11, 1)}, 3, 2);
    }

    static void term2_theLeastOfAllAndTheMostOfAll() {
        // kin 0 of strength 0 doesn't bear it and goes to place 0 and from there, by weather 0
        BearerKin x = Check.with("county places 5;way 0 1;way 0 4;kin at 1 strength 0;kin at 0;bears 1;may:1=1;"
            + "tires:if kin=0 then if goes=1 then 1 else 2 end else 3 end;");
        Check.due("to place 0", new long[] {x.why(100), x.by(100, 0), x.by(100, 1)}, 0, 1, 3);
        x.hour(100);
        Check.due("there", new long[] {x.kin(0, 0), x.kin(0, 2)}, 0, 1);
        BearerKin y = Check.with("county places 5;way 0 1;way 0 4;kin at 0 strength 0;kin at 0;bears 1;may:height=0;"
            + "tires:if kin=0 then if goes=1 then 1 else 2 end else 3 end;");
        Check.due("from place 0", new long[] {y.why(101), y.by(101, 0), y.why(104), y.by(104, 0), y.by(0, 0)}, 0, 1, 0, 1, 2);
        BearerKin z = Check.with("county places 5;way 0 1;way 0 4;kin at 0 strength 0;kin at 0;bears 1;tires:strength;");
        Check.due("without a law", new long[] {z.why(101), z.why(104), z.by(0, 0)}, 4, 4, 0);
        // kin 2 of strength 3 bears it and goes to place 4 and from there, by weather 9
        String most = "county places 5;height 4 9;height 3 1;way 4 3;kin at 0;kin at 0;kin at 3 age 9;bears 2;weather 9;"
            + "may:weather=9 and age=9 and strength=3 and bears=1;"
            + "tires:if goes=1 and kin=2 and weather=9 and height=9 then 3 else 2 end;";
        BearerKin w = Check.with(most);
        Check.due("to place 4", new long[] {w.why(124), w.by(124, 2), w.by(124, 0), w.by(0, 2)}, 0, 3, 2, 2);
        w.hour(124);
        Check.due("there", new long[] {w.kin(2, 0), w.count(3), w.why(123), w.by(123, 2)}, 4, 4, 0, 2);
    }

    static void term2_inMayHeightIsWhereItGoesFromWhereItIs() {
        String text = "county places 2;height 0 1;height 1 2;way 0 1;kin at 0;kin at 1;";
        BearerKin x = Check.with(text + "may:height=2 and from=1;");
        Check.due("up, down", new long[] {x.why(101), x.why(110)}, 0, 4);
        BearerKin y = Check.with(text + "may:bears=1;");
        Check.due("the bearer, another", new long[] {y.why(101), y.why(110)}, 0, 4);
        BearerKin z = Check.with(text + "weather 6;may:weather=6 and kin=1 and age=0 and strength=3;");
        Check.due("kin 0, kin 1", new long[] {z.why(101), z.why(110)}, 4, 0);
        z.weather(5);
        Check.due("another weather", z.why(110), 4);
    }
}
