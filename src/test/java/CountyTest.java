/** Promises 1 to 8: the county. */
final class CountyTest {
    private static final String LINE_OF_THREE = "county places 3;height 1 4;way 0 1;way 1 2;kin at 0 strength 2;"
        + "kin at 0 strength 1;kin at 2 age 7;bears 0;weather 3;";

    public static void main(String[] args) {
        newObject();
        feeding();
        telling();
        faults();
        nesting();
        places();
        kin();
        whyNot();
        whatAnHourBrings();
        laws();
        manyLaws();
        Check.end("CountyTest");
    }

    private static void newObject() {
        BearerKin x = new BearerKin();
        long[] counts = new long[12];
        for (int i = 0; i < counts.length; i++) {
            counts[i] = x.count(i);
        }
        Check.due("1 counts", counts, 1, 0, -1, -1, 0, 1, 0, 0, 0, 0, 0, -1);
        Check.due("1 height", x.place(0, 0), 0);
        Check.due("1 ways", x.place(0, 1), 0);
        Check.due("1 kin there", x.place(0, 2), 0);
        Check.due("1 no second place", x.place(1, 0), -2);
        Check.due("1 no kin", x.kin(0, 0), -2);
        Check.due("1 no fault", x.fault(0), 0);
        Check.due("1 no place of it", x.fault(1), -1);
        Check.due("1 it is down", x.why(0), 2);
        Check.due("1 a tray is missing", x.perform(0), -6);
        Check.due("1 no image", x.restore(1), -5);
        Check.due("1 NONE", BearerKin.NONE, -1);
    }

    private static void feeding() {
        BearerKin x = new BearerKin();
        Check.due("2 highest byte first", x.feed(0x636f756e, 0x74792070, 0x6c616365, 0x7320313b, -1), 20);
        Check.due("2 county", x.county(16), 1);
        for (int i = 1; i <= 45; i++) {
            Check.due("2 how many", x.feed(i, 0, 0, 0, 0), 20 * i);
        }
        Check.due("2 901 and more", x.feed(0, 0, 0, 0, 0), -5);
        Check.due("2 all stays", x.count(9), 900);
    }

    private static void telling() {
        BearerKin x = new BearerKin();
        Check.due("3 lines", Check.tell(x, LINE_OF_THREE), 9);
        Check.due("3 lines stay", x.count(10), 9);
        Check.due("3 the tape is empty", x.count(9), 0);
        x.hour(0);
        x.weather(5);
        Check.feed(x, "county places 2; way 0 0;");
        Check.due("3 below 0", x.county(-1), -3);
        Check.due("3 above", x.county(41), -3);
        Check.due("3 the tape stays", x.count(9), 40);
        Check.due("3 a fault", x.county(25), -33);
        Check.due("3 the tape is empty behind a fault", x.count(9), 0);
        Check.due("3 places stay", x.count(0), 3);
        Check.due("3 hours stay", x.count(7), 1);
        Check.due("3 weather stays", x.count(6), 5);
        Check.due("3 what can be undone stays", x.count(8), 2);
        Check.feed(x, "county places 2;way 0 1;rubbish");
        Check.due("3 the first bytes", x.county(24), 2);
        Check.due("3 hours are 0", x.count(7), 0);
        Check.due("3 nothing can be undone", x.count(8), 0);
        Check.due("3 undo", x.undo(1), -3);
        Check.due("3 no kin any more", x.count(1), 0);
        Check.due("3 weather 0", x.count(6), 0);
        Check.due("3 nothing read: the end can't stand there", x.county(0), -32);
        Check.due("3 the end's place", x.fault(1), 0);
        Check.due("3 blanks", Check.tell(x, "\n county\n\nplaces 5 ;  \n weather 9;\n"), 2);
        Check.due("3 weather 9", x.count(6), 9);
        Check.due("3 no blanks", Check.tell(x, "county places1;kin at0age3strength2;bears0;"), 3);
        Check.due("3 age", x.kin(0, 1), 3);
        Check.due("3 strength", x.kin(0, 2), 2);
        Check.tell(x, "county places 2;height 1 3;height 1 8;weather 1;weather 2;kin at 0 strength 1 age 2 strength 2"
            + " age 9;kin at 1;bears 1;bears 0;");
        Check.due("3 later height", x.place(1, 0), 8);
        Check.due("3 later weather", x.count(6), 2);
        Check.due("3 later strength", x.kin(0, 2), 2);
        Check.due("3 later age", x.kin(0, 1), 9);
        Check.due("3 later bears", x.count(2), 0);
        Check.feed(x, "county places 12;");
        Check.due("3 no byte behind them", x.county(15), -32);
        Check.due("3 it ends there", x.fault(1), 15);
        Check.feed(x, "county places 1;weathers");
        Check.due("3 no letter behind them", x.county(23), -32);
        Check.due("3 a number is missing", x.fault(1), 23);
        Check.due("3 three digits", Check.tell(x, "county places 001;"), 1);
        Check.due("3 struck laws are read", Check.tell(x, "county places 1;tires: goes;tires: 3;may: from=1;may: 1=1;"), 5);
    }

    private static void fault(String text, int kind, int at) {
        BearerKin x = Check.with("county places 1;");
        Check.due("4 the code of " + text, Check.tell(x, text), -30 - kind);
        Check.due("4 the fault of " + text, x.fault(0), kind);
        Check.due("4 the place in " + text, x.fault(1), at);
    }

    private static void faults() {
        fault("", 2, 0);
        fault("   ", 2, 3);
        fault("places 1;", 2, 0);
        fault("County places 1;", 1, 0);
        fault("county places;", 2, 13);
        fault("county places 0;", 3, 14);
        fault("county places 6;", 3, 14);
        fault("county places 1", 2, 15);
        fault("county places 1 1;", 2, 16);
        fault("county places 1;;", 2, 16);
        fault("county places 1;county places 1;", 2, 16);
        fault("county places 1000;", 1, 14);
        fault("county places 0001;", 1, 14);
        fault("county places 1;height 1 0;", 3, 23);
        fault("county places 1;height 0 10;", 3, 25);
        fault("county places 2;way 0 2;", 3, 22);
        fault("county places 2;way 1 1;", 3, 22);
        fault("county places 2;way 2 2;", 3, 20);
        fault("county places 2;way 1 1000;", 1, 22);
        fault("county places 2;kin at 2;", 3, 23);
        fault("county places 2;kin 0;", 2, 20);
        fault("county places 2;kin at 0 age 10;", 3, 29);
        fault("county places 2;kin at 0 strength 4;", 3, 34);
        fault("county places 2;kin at 0 height 1;", 2, 25);
        fault("county places 2;bears 0;", 3, 22);
        fault("county places 2;kin at 0;bears 1;kin at 0;", 3, 31);
        fault("county places 2;weather 10;", 3, 24);
        fault("county places 2;weather 9", 2, 25);
        fault("county places 2;moo;", 2, 16);
        fault("county places 2;wayy 0 1;", 2, 16);
        fault("county places 2;z;", 2, 16);
        fault("county places 2;wayz 0 1;", 2, 16);
        fault("county places 2;way`0 1;", 1, 19);
        fault("county places 2;way{0 1;", 1, 19);
        fault("county places 2;way/0 1;", 1, 19);
        fault("county places 2;way 0 1, 2;", 1, 23);
        fault("county places 2;way\t0 1;", 1, 19);
        fault("county places 2;\u00e9", 1, 16);
        fault("county places 2;kin at 0;kin at 0;kin at 0;kin at 0;", 4, 43);
        fault("county places 2;kin at 0;kin at 0;kin at 0;kin 7;", 4, 43);
        fault("county places 2;tires 3;", 2, 22);
        fault("county places 2;tires: ;", 2, 23);
        fault("county places 2;tires: -1;", 2, 23);
        fault("county places 2;tires: 1+;", 2, 25);
        fault("county places 2;tires: 1 2;", 2, 25);
        fault("county places 2;tires: 1=1;", 2, 24);
        fault("county places 2;tires: from;", 2, 23);
        fault("county places 2;tires: if 1 then 2 else 3 end;", 2, 28);
        fault("county places 2;tires: if 1=1 then 2 end;", 2, 37);
        fault("county places 2;tires: [1];", 2, 23);
        fault("county places 2;may: goes=1;", 2, 21);
        fault("county places 2;may: 1;", 2, 22);
        fault("county places 2;may: 1=1=1;", 2, 24);
        fault("county places 2;may: [1=1;", 2, 25);
        fault("county places 2;may: (1=1);", 2, 23);
        fault("county places 2;may: not;", 2, 24);
        fault("county places 2;may: 1=1 and;", 2, 28);
        BearerKin x = new BearerKin();
        Check.tell(x, "county;");
        Check.due("4 others", x.fault(2), -1);
        Check.due("4 below", x.fault(-1), -1);
        Check.due("4 not read", x.county(21), -3);
        Check.due("4 of the latest that was read", x.fault(1), 6);
        Check.tell(x, "county places 1;");
        Check.due("4 no fault", x.fault(0), 0);
        Check.due("4 no place", x.fault(1), -1);
    }

    private static void nesting() {
        BearerKin x = new BearerKin();
        Check.due("4 six (", Check.tell(x, "county places 1;tires: ((((((1))))));"), 2);
        fault("county places 1;tires: (((((((1)))))));", 4, 29);
        Check.due("4 six not", Check.tell(x, "county places 1;may: not not not not not not 1=1;"), 2);
        fault("county places 1;may: not not not not not not not 1=1;", 4, 45);
        fault("county places 1;may: not[not[not[(((1=1", 4, 33);
        Check.due("4 not beside not", Check.tell(x,
            "county places 1;may: not not not 1=1 and not not not (1)=((1)) or not not [not 1=1];"), 2);
        fault("county places 1;tires: if [[[[[[1=1", 4, 31);
        fault("county places 1;tires: if 1=1 then ((((((1", 4, 40);
        fault("county places 1;tires: if 1=1 then 1 else ((((((1", 4, 47);
        Check.due("4 behind the end", Check.tell(x,
            "county places 1;tires: if 1=1 then 1 else (((((1))))) end+((((((1))))));"), 2);
        fault("county places 1;tires: (((((([", 2, 29);
    }

    private static void places() {
        BearerKin x = Check.with(LINE_OF_THREE);
        Check.due("5 heights", new long[] {x.place(0, 0), x.place(1, 0), x.place(2, 0)}, 0, 4, 0);
        Check.due("5 ways", new long[] {x.place(0, 1), x.place(1, 1), x.place(2, 1)}, 2, 5, 2);
        Check.due("5 kin", new long[] {x.place(0, 2), x.place(1, 2), x.place(2, 2)}, 3, 0, 4);
        Check.due("5 place", x.place(3, 0), -2);
        Check.due("5 below", x.place(-1, 0), -2);
        Check.due("5 what", x.place(0, 3), -2);
        Check.due("5 what below", x.place(0, -1), -2);
        x.hour(111);
        Check.due("5 one went", x.place(1, 2), 2);
    }

    private static void kin() {
        BearerKin x = Check.with(LINE_OF_THREE);
        Check.due("6 of kin 2", new long[] {x.kin(2, 0), x.kin(2, 1), x.kin(2, 2), x.kin(2, 3)}, 2, 7, 3, 0);
        Check.due("6 of kin 0", new long[] {x.kin(0, 0), x.kin(0, 1), x.kin(0, 2), x.kin(0, 3)}, 0, 0, 2, 1);
        Check.due("6 kin", x.kin(3, 0), -2);
        Check.due("6 below", x.kin(-1, 0), -2);
        Check.due("6 what", x.kin(0, 4), -2);
        Check.due("6 what below", x.kin(0, -1), -2);
    }

    private static void whyNot() {
        BearerKin x = Check.with("county places 3;way 0 1;kin at 0;kin at 0 strength 0;kin at 1;");
        Check.due("7 rest", x.why(0), 0);
        Check.due("7 hand to itself", x.why(10), 3);
        Check.due("7 too weak", x.why(11), 4);
        Check.due("7 elsewhere", x.why(12), 3);
        Check.due("7 no such kin", x.why(13), 1);
        Check.due("7 it goes", x.why(101), 0);
        Check.due("7 where it is", x.why(100), 3);
        Check.due("7 no way", x.why(102), 3);
        Check.due("7 no such place", x.why(103), 1);
        Check.due("7 too weak to go", x.why(111), 4);
        Check.due("7 no such kin goes", x.why(130), 1);
        Check.due("7 far above", x.why(200), 1);
        Check.due("7 below", x.why(-1), 1);
        Check.due("7 the least", x.why(Integer.MIN_VALUE), 1);
        Check.due("7 a number that tells none", x.why(5), 1);
        Check.due("7 a meal is no hour", x.why(20), 1);
        Check.due("7 a weather is no hour", x.why(30), 1);
        BearerKin y = Check.with("county places 2;kin at 0 strength 0;kin at 0;");
        Check.due("7 down", y.why(0), 2);
        Check.due("7 down ahead of no way", y.why(101), 2);
        Check.due("7 none ahead of down", y.why(12), 1);
        BearerKin z = Check.with("county places 2;way 0 1;kin at 0 strength 0;kin at 0;bears 1;may: strength=0;");
        Check.due("7 the law lets it", z.why(101), 0);
        Check.due("7 the law doesn't", z.why(111), 4);
    }

    private static void whatAnHourBrings() {
        BearerKin x = Check.with(LINE_OF_THREE);
        Check.due("8 rest", new long[] {x.by(0, 0), x.by(0, 1), x.by(0, 2)}, 1, 2, 3);
        Check.due("8 handed", new long[] {x.by(11, 0), x.by(11, 1), x.by(11, 2)}, 3, 0, 3);
        Check.due("8 the bearer goes", new long[] {x.by(101, 0), x.by(101, 1)}, 1, 2);
        Check.due("8 another one goes", new long[] {x.by(111, 0), x.by(111, 1)}, 1, 1);
        Check.due("8 no kin", x.by(0, 3), -2);
        Check.due("8 no kin, ahead of the hour", x.by(12, -1), -2);
        Check.due("8 it can't be", x.by(12, 0), -5);
        Check.due("8 no hour", x.by(20, 0), -5);
        Check.due("8 nothing was done", x.count(7), 0);
        Check.due("8 strengths stay", x.count(4), 6);
    }

    private static void law(String tires, int due) {
        BearerKin x = Check.with("county places 2;height 0 2;height 1 7;way 0 1;weather 4;kin at 0 age 5 strength 1;"
            + "kin at 0 age 6 strength 2;bears 1;tires:" + tires + ";");
        Check.due("8 " + tires, x.by(0, 1), due);
    }

    private static void may(String may, int due) {
        BearerKin x = Check.with("county places 2;height 0 2;height 1 7;way 0 1;weather 4;kin at 0 age 5 strength 1;"
            + "kin at 0 age 6 strength 2;bears 1;may:" + may + ";");
        Check.due("7 " + may, x.why(111), due);
    }

    private static void manyLaws() {
        BearerKin x = new BearerKin();
        for (int i = 0; i < 60; i++) {
            Check.tell(x, "county places 1;kin at 0;tires: 1+1+1+1+1+1+1+1+1+1+1+1+1+1-13+" + i % 2 + ";");
            Check.due("3 a county behind many others", x.by(0, 0), 1 + i % 2);
        }
    }

    private static void laws() {
        law("kin", 1);
        law("age-4", 2);
        law("strength", 2);
        law("bears", 1);
        law("weather-1", 3);
        law("height", 2);
        law("goes", 0);
        law("0-9", 0);
        law("999", 3);
        law("7-3-2", 2);
        law("1+2*3-5", 2);
        law("(1+2)*1", 3);
        law("2*2*2-6", 2);
        law("999*999*999-999*999-999-999", 1);
        law("0-999*999*999+999*999+999+999+2", 1);
        law("999*999+999*999-999*999-999-999", 1);
        law("(0-999)*999*999+999*999+999+999+3", 2);
        law("if 1=1 then 1 else 2 end", 1);
        law("if 1>1 then 1 else 2 end", 2);
        law("if 1<2 and 2<1 then 1 else 2 end", 2);
        law("if 1<2 or 2<1 and 2<1 then 1 else 2 end", 1);
        law("if [1<2 or 2<1] and 2<1 then 1 else 2 end", 2);
        law("if not 1=1 and 1=2 then 1 else 2 end", 2);
        law("if not [1=1 and 1=2] then 1 else 2 end", 1);
        law("if not 1=1 or 1=1 then 1 else 2 end", 1);
        law("1+if kin=1 then if bears=1 then 2 else 1 end else 0 end", 3);
        may("kin=1", 0);
        may("kin=0", 4);
        may("age=6 and strength=2 and bears=1 and weather=4", 0);
        may("height=7 and from=2", 0);
        may("height=2 or from=7", 4);
        may("0-1<0", 0);
        BearerKin x = Check.with("county places 2;height 1 1;way 0 1;kin at 0;kin at 0 strength 1;"
            + "tires: strength*0+height*2+goes-bears*3+1;");
        Check.due("8 height of where it is then", x.by(111, 1), 3);
        Check.due("8 of the other one as it is", x.by(111, 0), 0);
        Check.due("8 goes and bears", x.by(101, 0), 1);
        Check.due("8 bears as it is then", x.by(11, 1), 0);
        Check.due("8 doesn't bear then", x.by(11, 0), 1);
    }
}
