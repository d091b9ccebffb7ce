/** Bounds that "Terms" names in ==== 1.: the text of a county, its tokens, its faults, its laws. */
final class TextBoundsTest {
    private static final String HEAD = "county places 1;";

    public static void main(String[] args) {
        Check.runAll(TextBoundsTest.class);
    }

    private static BearerKin reads(String text, int lines) {
        BearerKin x = new BearerKin();
        Check.due("lines of " + text, Check.tell(x, text), lines);
        Check.due("no fault in " + text, x.fault(0), 0);
        Check.due("no place of a fault in " + text, x.fault(1), -1);
        Check.due("LINES of " + text, x.count(10), lines);
        return x;
    }

    /** The text has the fault, and the county that stood stays. */
    private static void faulty(String text, int kind, int at) {
        BearerKin x = Check.with("county places 2;kin at 1 strength 2;weather 7;");
        Check.due("the code of " + text, Check.tell(x, text), -30 - kind);
        Check.due("the fault of " + text, x.fault(0), kind);
        Check.due("its place in " + text, x.fault(1), at);
        Check.due("all stays with " + text, new long[] {x.count(0), x.count(1), x.count(6), x.count(10), x.kin(0, 2)},
            2, 1, 7, 3, 2);
    }

    // ---- "a TEXT of at most 900 bytes"

    static void term1_aTextOf900Bytes() {
        String text = "county places 3;" + " ".repeat(874) + "weather 4;";
        Check.due("its length", text.length(), 900);
        BearerKin x = reads(text, 2);
        Check.due("its first line", x.count(0), 3);
        Check.due("its last line", x.count(6), 4);
        Check.feed(x, text);
        Check.due("one byte more than there are", x.county(901), -3);
        Check.due("one byte less: it ends ahead of its ;", x.county(899), -32);
        Check.due("there", x.fault(1), 899);
        Check.feed(x, text);
        Check.due("a byte more for the tape", x.feed(0, 0, 0, 0, 0), -5);
        Check.due("it still can be read", x.county(900), 2);
    }

    static void term1_aTextOf900BytesFullOfLines() {
        String text = "county places 5;" + "way 0 1;".repeat(110) + "    ";
        Check.due("its length", text.length(), 900);
        Check.due("way", reads(text, 111).place(0, 1), 2);
    }

    static void term1_aTextOf900BytesFullOfALaw() {
        String text = HEAD + "kin at 0;tires:1" + "+1-1".repeat(216) + "+0; ";
        Check.due("its length", text.length(), 900);
        Check.due("what it tells", reads(text, 3).by(0, 0), 1);
        String may = "county places 2;way 0 1;kin at 0;may:1=1" + " and 1=1".repeat(106) + ";";
        Check.due("what a law may tells", reads(may, 4).why(101), 0);
        String mayNot = "county places 2;way 0 1;kin at 0;may:1=1" + " and 1=1".repeat(105) + " and 1=0;";
        Check.due("what its last part tells", reads(mayNot, 4).why(101), 4);
    }

    static void term1_withoutATextOnePlaceNoKinWeather0() {
        BearerKin x = new BearerKin();
        Check.due("places, kin, weather", new long[] {x.count(0), x.count(1), x.count(6)}, 1, 0, 0);
    }

    // ---- what the lines' numbers may be

    static void term1_places1To5() {
        faulty("county places 0;", 3, 14);
        for (int n = 1; n <= 5; n++) {
            BearerKin x = reads("county places " + n + ";", 1);
            Check.due("places", x.count(0), n);
            Check.due("the last place", x.place(n - 1, 0), 0);
            Check.due("one more", x.place(n, 0), -2);
        }
        faulty("county places 6;", 3, 14);
        faulty("county places 999;", 3, 14);
    }

    static void term1_heightOfAPlaceThatThereIs() {
        for (int n = 1; n <= 5; n++) {
            String head = "county places " + n + ";height ";
            Check.due("the first place", reads(head + "0 7;", 2).place(0, 0), 7);
            Check.due("the last place", reads(head + (n - 1) + " 7;", 2).place(n - 1, 0), 7);
            faulty(head + n + " 7;", 3, 23);
            faulty(head + "999 7;", 3, 23);
        }
    }

    static void term1_height0To9() {
        Check.due("0", reads("county places 2;height 1 5;height 1 0;", 3).place(1, 0), 0);
        Check.due("9", reads("county places 2;height 1 9;", 2).place(1, 0), 9);
        faulty("county places 2;height 1 10;", 3, 25);
        faulty("county places 2;height 1 999;", 3, 25);
    }

    static void term1_heightsAll0ALaterOneOfTheSamePlaceStrikes() {
        BearerKin x = reads("county places 3;height 1 5;height 2 6;height 1 8;", 4);
        Check.due("none told, the later one, the other place", new long[] {x.place(0, 0), x.place(1, 0), x.place(2, 0)},
            0, 8, 6);
    }

    static void term1_wayBetweenTwoPlacesThatThereAre() {
        BearerKin x = reads("county places 5;way 4 0;", 2);
        Check.due("the last and the first", new long[] {x.place(0, 1), x.place(4, 1)}, 16, 1);
        faulty("county places 4;way 4 0;", 3, 20);
        faulty("county places 4;way 0 4;", 3, 22);
        faulty("county places 4;way 4 4;", 3, 20);
    }

    static void term1_wayNotOfOneAndTheSamePlace() {
        for (int k = 0; k < 3; k++) {
            faulty("county places 3;way " + k + " " + k + ";", 3, 22);
            faulty("county places 3;way " + k + " 00" + k + ";", 3, 22);
        }
        faulty("county places 1;way 0 0;", 3, 22);
        faulty("county places 1;way 0 1;", 3, 22);
    }

    static void term1_wayBothWaysOnceIsEnough() {
        String[] same = {"way 0 1;", "way 1 0;", "way 0 1;way 1 0;", "way 0 1;way 0 1;"};
        for (String ways : same) {
            BearerKin x = Check.with("county places 3;" + ways);
            Check.due(ways, new long[] {x.place(0, 1), x.place(1, 1), x.place(2, 1)}, 2, 1, 0);
        }
    }

    static void term1_kinAtAPlaceThatThereIs() {
        Check.due("the first", reads("county places 3;kin at 0;", 2).kin(0, 0), 0);
        Check.due("the last", reads("county places 3;kin at 2;", 2).kin(0, 0), 2);
        faulty("county places 3;kin at 3;", 3, 23);
    }

    static void term1_age0To9() {
        Check.due("none told", reads(HEAD + "kin at 0;", 2).kin(0, 1), 0);
        Check.due("0", reads(HEAD + "kin at 0 age 0;", 2).kin(0, 1), 0);
        Check.due("9", reads(HEAD + "kin at 0 age 9;", 2).kin(0, 1), 9);
        faulty(HEAD + "kin at 0 age 10;", 3, 29);
    }

    static void term1_strength0To3() {
        Check.due("none told", reads(HEAD + "kin at 0;", 2).kin(0, 2), 3);
        for (int s = 0; s <= 3; s++) {
            Check.due("told", reads(HEAD + "kin at 0 strength " + s + ";", 2).kin(0, 2), s);
        }
        faulty(HEAD + "kin at 0 strength 4;", 3, 34);
    }

    static void term1_laterFlagsStrike() {
        BearerKin x = reads(HEAD + "kin at 0 strength 1 age 9 strength 0 age 0 strength 2;kin at 0;", 3);
        Check.due("strength, age", new long[] {x.kin(0, 2), x.kin(0, 1)}, 2, 0);
        Check.due("of the next one none is told", new long[] {x.kin(1, 2), x.kin(1, 1)}, 3, 0);
    }

    static void term1_kin3AtMost() {
        String three = HEAD + "kin at 0 age 1;kin at 0 age 2;kin at 0 age 3;";
        BearerKin x = reads(three, 4);
        Check.due("three", x.count(1), 3);
        Check.due("numbered from 0 on", new long[] {x.kin(0, 1), x.kin(1, 1), x.kin(2, 1), x.kin(3, 1)}, 1, 2, 3, -2);
        Check.due("two", reads(HEAD + "kin at 0;kin at 0;", 3).count(1), 2);
        Check.due("none", reads(HEAD, 1).count(1), 0);
        faulty(three + "kin at 0;", 4, three.length());
        faulty(three + "  kin", 4, three.length() + 2);
        faulty(three + "weather 1;bears 2;kin;", 4, three.length() + 18);
        faulty(three + "kin at 7 age 10;", 4, three.length());
    }

    static void term1_bearsOneOfTheKinToldAhead() {
        faulty(HEAD + "bears 0;", 3, 22);
        faulty(HEAD + "bears 0;kin at 0;", 3, 22);
        Check.due("the first", reads(HEAD + "kin at 0;kin at 0;bears 0;", 4).count(2), 0);
        Check.due("the last", reads(HEAD + "kin at 0;kin at 0;bears 1;", 4).count(2), 1);
        faulty(HEAD + "kin at 0;kin at 0;bears 2;", 3, 40);
        faulty(HEAD + "kin at 0;kin at 0;bears 2;kin at 0;", 3, 40);
        Check.due("the third", reads(HEAD + "kin at 0;kin at 0;kin at 0;bears 2;", 5).count(2), 2);
    }

    static void term1_withoutBearsKin0() {
        Check.due("kin 0", reads(HEAD + "kin at 0;kin at 0;kin at 0;", 4).count(2), 0);
        Check.due("without kin", reads(HEAD, 1).count(2), -1);
    }

    static void term1_weather0To9() {
        Check.due("none told", reads(HEAD, 1).count(6), 0);
        for (int w = 0; w <= 9; w++) {
            Check.due("told", reads(HEAD + "weather " + w + ";", 2).count(6), w);
        }
        faulty(HEAD + "weather 10;", 3, 24);
    }

    static void term1_laterLinesStrike() {
        BearerKin x = reads("county places 2;way 0 1;kin at 0;kin at 0;bears 1;bears 0;weather 5;weather 0;"
            + "tires:1;tires:2;may:1=1;may:1=0;", 12);
        Check.due("bears", x.count(2), 0);
        Check.due("weather", x.count(6), 0);
        Check.due("tires", x.by(0, 0), 2);
        Check.due("may", x.why(101), 4);
    }

    static void term1_whatIsNotToldIsSoWhateverTheCountyAheadWas() {
        BearerKin x = Check.with("county places 3;height 0 1;height 2 9;way 0 1;way 1 2;kin at 2 age 9 strength 1;"
            + "kin at 1 age 8 strength 0;kin at 2 age 7 strength 2;bears 2;weather 9;tires:2;may:1=0;");
        x.weather(8);
        Check.tell(x, "county places 3;way 0 2;kin at 0;kin at 0;kin at 0;");
        for (int k = 0; k < 3; k++) {
            Check.due("height " + k, x.place(k, 0), 0);
            Check.due("ways " + k, x.place(k, 1), new long[] {4, 0, 1}[k]);
        }
        for (int p = 0; p < 3; p++) {
            Check.due("kin " + p, new long[] {x.kin(p, 0), x.kin(p, 1), x.kin(p, 2), x.kin(p, 3)}, 0, 0, 3, p == 0 ? 1 : 0);
        }
        Check.due("weather", x.count(6), 0);
        Check.due("no law tires", new long[] {x.by(0, 0), x.by(0, 1)}, 2, 3);
        Check.due("no law may", x.why(102), 0);
        // what a text with a fault told is nothing, either
        Check.tell(x, "county places 3;height 0 5;kin at 1 age 4;weather 3;tires:1;may:1=0;bears 0;?");
        Check.tell(x, "county places 2;kin at 0;");
        Check.due("height, age, weather, kin, a rest", new long[] {x.place(0, 0), x.kin(0, 1), x.count(6), x.count(1),
            x.by(0, 0)}, 0, 0, 0, 1, 2);
    }

    static void term1_struckLinesMustBeWithoutAFault() {
        faulty(HEAD + "tires:from;tires:1;", 2, 22);
        faulty(HEAD + "weather 10;weather 1;", 3, 24);
    }

    // ---- tokens

    private static final String SIGNS = ";:+-*()[]=<>";

    static void term1_howTokensBegin() {
        for (int b = 0; b < 256; b++) {
            char c = (char) b;
            if (b == 10 || b == 32) {
                reads(HEAD + c, 1);
                continue;
            }
            boolean begins = c >= 'a' && c <= 'z' || c >= '0' && c <= '9' || SIGNS.indexOf(c) >= 0;
            faulty(HEAD + c, begins ? 2 : 1, 16);
        }
    }

    static void term1_whatMayStandBetweenTokens() {
        for (int b = 0; b < 256; b++) {
            char c = (char) b;
            String text = "county" + c + "places 1;";
            if (b == 10 || b == 32) {
                reads(text, 1);
            } else if (c >= 'a' && c <= 'z') {
                faulty(text, 2, 0);
            } else {
                faulty(text, c >= '0' && c <= '9' || SIGNS.indexOf(c) >= 0 ? 2 : 1, 6);
            }
        }
    }

    static void term1_blanksAnyNumberOfThem() {
        BearerKin x = reads(" \n county \n places\n1 ; kin   at\n\n0 age 4 ; tires : ( 1 + 2 ) * 1 - 1 ; \n", 3);
        Check.due("age", x.kin(0, 1), 4);
        Check.due("law", x.by(0, 0), 2);
        BearerKin y = reads("county places1;kin at0age4strength2;tires:(1+2)*1-if 1=1then 1else 2end;", 3);
        Check.due("age", y.kin(0, 1), 4);
        Check.due("law", y.by(0, 0), 2);
    }

    static void term1_wordsAsLongAsTheyGoOn() {
        faulty("countyplaces 1;", 2, 0);
        faulty("county placesx 1;", 2, 7);
        faulty("count places 1;", 2, 0);
        faulty("county place 1;", 2, 7);
        faulty(HEAD + "kinat 0;", 2, 16);
        faulty(HEAD + "kin at 0 ages 1;", 2, 25);
        faulty(HEAD + "kin at 0 ag 1;", 2, 25);
        faulty(HEAD + "may:1=1 nd 1=1;", 2, 24);
        faulty(HEAD + "may:1=1 orr 1=1;", 2, 24);
        faulty(HEAD + "may:nott 1=1;", 2, 20);
        faulty(HEAD + "may:not nott 1=1;", 2, 24);
        faulty(HEAD + "tires:if 1=1 the 1 else 1 end;", 2, 29);
        faulty(HEAD + "tires:if 1=1 then 1 else 1 en;", 2, 43);
        faulty(HEAD + "tires:if 1=1 then 1 else 1 endd;", 2, 43);
    }

    static void term1_n1To3Digits() {
        Check.due("1", reads(HEAD + "weather 9;", 2).count(6), 9);
        Check.due("2", reads(HEAD + "weather 09;", 2).count(6), 9);
        Check.due("3", reads(HEAD + "weather 009;", 2).count(6), 9);
        faulty(HEAD + "weather 0009;", 1, 24);
        faulty(HEAD + "weather 00000;", 1, 24);
        faulty(HEAD + "weather " + "0".repeat(870) + ";", 1, 24);
        Check.due("999 in a law", reads(HEAD + "kin at 0;tires:999-998;", 3).by(0, 0), 1);
        Check.due("000 in a law", reads(HEAD + "kin at 0;tires:000+2;", 3).by(0, 0), 2);
        faulty(HEAD + "tires:1000;", 1, 22);
        faulty(HEAD + "tires:1+0001;", 1, 24);
        faulty(HEAD + "may:1=4294967297;", 1, 22);
    }

    // ---- faults

    static void term1_theFirstFaultAlongTheText() {
        faulty("county places 6;county ?", 3, 14);
        faulty("county places 2;way 0 0;?", 3, 22);
        faulty("county places 2;way 0 ?;way 1 1;", 1, 22);
        faulty("county places 2;weather;?", 2, 23);
        faulty("county places 2;weather 10 1000", 3, 24);
        faulty("county places 2;tires:(((((((?", 4, 28);
        faulty("county places 2;tires:((((((?", 1, 28);
        faulty("county places 2;kin at 0;kin at 0;kin at 0;kin 1000;", 4, 43);
    }

    static void term1_ofOneTokenTheLeastKind() {
        // 1 of 1, 2; 1 of 1, 3; 1 of 1, 2 where a sign is due
        faulty("county places 1 1000;", 1, 16);
        faulty("county places 1000;", 1, 14);
        faulty(HEAD + "kin at 0 !", 1, 25);
        // 2 of 2, 3: no number can stand there, whatever it is
        faulty("county places 1 999;", 2, 16);
        faulty(HEAD + "999;", 2, 16);
        faulty(HEAD + "weather 1 10;", 2, 26);
        // 2 of 2, 4: a seventh that can't stand there anyhow; a fourth kin within another line
        faulty(HEAD + "tires:(((((([", 2, 28);
        faulty(HEAD + "tires:((((((not", 2, 28);
        faulty(HEAD + "tires:((((((1(", 2, 29);
        faulty(HEAD + "may:[[[[[[1[", 2, 27);
        faulty(HEAD + "may:[[[[[[1=1 not", 2, 30);
        faulty(HEAD + "may:[[[[[[1=1 if", 2, 30);
        faulty(HEAD + "kin at 0;kin at 0;kin at 0;height kin", 2, 50);
        faulty(HEAD + "kin at 0;kin at 0;kin at 0 kin", 2, 43);
    }

    static void term1_theEndIsAtTheTextsLength() {
        String[] tokens = ("county places 2 ; height 1 9 ; way 0 1 ; kin at 0 age 3 strength 2 ; kin at 1 ; bears 1 ; "
            + "weather 6 ; tires : if not kin = 1 and [ age < 4 or bears > 0 ] then strength * ( 2 - goes ) + 1 "
            + "else weather - height end ; may : from < height or 1 = 1 ;").split(" ");
        StringBuilder text = new StringBuilder();
        int lines = 0;
        faulty("", 2, 0);
        faulty(" ", 2, 1);
        for (String token : tokens) {
            text.append(token);
            if (token.equals(";")) {
                lines++;
                reads(text.toString(), lines);
                reads(text + " \n", lines);
            } else {
                faulty(text.toString(), 2, text.length());
                faulty(text + "\n ", 2, text.length() + 2);
            }
            text.append(' ');
        }
        Check.due("all lines were read", lines, 9);
    }

    static void term1_countyMustBeToldFirst() {
        faulty("weather 1;county places 1;", 2, 0);
        faulty("kin at 0;", 2, 0);
        faulty("places 1;", 2, 0);
        faulty(";county places 1;", 2, 0);
        faulty("\n;", 2, 1);
        faulty("1 county places 1;", 2, 0);
    }

    static void term1_countyMustBeToldOnce() {
        faulty("county county places 1;", 2, 7);
        faulty(HEAD + HEAD, 2, 16);
        faulty(HEAD + "weather 1;" + HEAD, 2, 26);
    }

    static void term1_aWordOfTheOtherLaw() {
        Check.due("goes in tires", reads(HEAD + "kin at 0;tires:goes+2;", 3).by(0, 0), 2);
        faulty(HEAD + "tires:from;", 2, 22);
        faulty(HEAD + "tires:1+(if from=1 then 1 else 2 end);", 2, 28);
        Check.due("from in may", reads(HEAD + "may:from=0;", 2).count(10), 2);
        faulty(HEAD + "may:goes=0;", 2, 20);
        faulty(HEAD + "may:not[1=1 or 0<goes];", 2, 33);
        // a law's words are its own, behind the other law, too
        faulty(HEAD + "may:from=0;tires:from;", 2, 33);
        faulty(HEAD + "tires:goes;may:goes=0;", 2, 31);
    }

    static void term1_wordsOfNoLaw() {
        for (String word : new String[] {"county", "places", "way", "at", "tires", "may", "then", "end", "x"}) {
            faulty(HEAD + "tires:" + word + ";", 2, 22);
            faulty(HEAD + "may:" + word + "=1;", 2, 20);
        }
    }

    static void term1_aLineMustBeOne() {
        faulty(HEAD + ";", 2, 16);
        faulty(HEAD + "weather 1;;", 2, 26);
        faulty(HEAD + "weather 1 weather 2;", 2, 26);
        faulty(HEAD + "kin at 0,", 1, 24);
        faulty(HEAD + "tires 1;", 2, 22);
        faulty(HEAD + "weather:1;", 2, 23);
        faulty("county places -1;", 2, 14);
    }

    static void term1_aTruthIsNoSumASumNoTruth() {
        faulty(HEAD + "tires:1=1;", 2, 23);
        faulty(HEAD + "tires:[1];", 2, 22);
        faulty(HEAD + "tires:not 1;", 2, 22);
        faulty(HEAD + "may:1;", 2, 21);
        faulty(HEAD + "may:[1];", 2, 22);
        faulty(HEAD + "may:(1=1);", 2, 22);
        faulty(HEAD + "may:1=1=1;", 2, 23);
        faulty(HEAD + "may:1<2<3;", 2, 23);
        faulty(HEAD + "tires:if 1 then 2 else 3 end;", 2, 27);
        faulty(HEAD + "tires:if 1=1 then 2=2 else 3 end;", 2, 35);
        faulty(HEAD + "tires:if 1=1 then 2 end;", 2, 36);
        faulty(HEAD + "tires:-1;", 2, 22);
        faulty(HEAD + "tires:1+;", 2, 24);
        faulty(HEAD + "tires:1*;", 2, 24);
        faulty(HEAD + "tires:();", 2, 23);
        faulty(HEAD + "tires:(1;", 2, 24);
        faulty(HEAD + "tires:1);", 2, 23);
        faulty(HEAD + "may:[1=1;", 2, 24);
        faulty(HEAD + "may:1=1];", 2, 23);
        faulty(HEAD + "may:[1=1);", 2, 24);
        faulty(HEAD + "may:1=1 and;", 2, 27);
        faulty(HEAD + "may:or 1=1;", 2, 20);
        faulty(HEAD + "may:1=1 not 1=1;", 2, 24);
    }

    // ---- six of not [ ( if within one another

    /** Laws with so many of not [ ( if within one another, each behind each that can be; ends at their leaf. */
    private static final class Nests {
        private final int most;
        private final boolean whole;
        private int made;

        Nests(int most, boolean whole) {
            this.most = most;
            this.whole = whole;
        }

        /** A text so far, what closes it, and where its last one of not [ ( if is. */
        void draw(String open, String close, boolean ofTruth, int deep, int last) {
            if (deep == most) {
                made++;
                if (whole) {
                    reads(open + (ofTruth ? "1=1" : "1") + close + ";", 2);
                } else {
                    faulty(open, 4, last);
                }
                return;
            }
            int at = open.length();
            if (ofTruth) {
                draw(open + "not ", close, true, deep + 1, at);
                draw(open + "[", "]" + close, true, deep + 1, at);
            }
            String compared = ofTruth ? "=1" : "";
            draw(open + "(", ")" + compared + close, false, deep + 1, at);
            draw(open + "if ", " then 1 else 1 end" + compared + close, true, deep + 1, at);
        }
    }

    static void term1_sixOfThemWithinOneAnother() {
        Nests nests = new Nests(6, true);
        nests.draw(HEAD + "tires:", "", false, 0, 0);
        nests.draw(HEAD + "may:", "", true, 0, 0);
        Check.due("many were tried", nests.made > 1000 ? 1 : 0, 1);
    }

    static void term1_aSeventhOfThem() {
        Nests nests = new Nests(7, false);
        nests.draw(HEAD + "tires:", "", false, 0, 0);
        nests.draw(HEAD + "may:", "", true, 0, 0);
        Check.due("many were tried", nests.made > 1000 ? 1 : 0, 1);
    }

    static void term1_sixBehindThenAndElse() {
        reads(HEAD + "tires:if 1=1 then (((((1))))) else (((((1))))) end;", 2);
        faulty(HEAD + "tires:if 1=1 then ((((((1", 4, 39);
        faulty(HEAD + "tires:if 1=1 then 1 else ((((((1", 4, 46);
        reads(HEAD + "tires:if 1=1 then 1 else 1 end+((((((1))))));", 2);
    }

    static void term1_besideOneAnotherTheyAreNotCounted() {
        reads(HEAD + "tires:((((((1))))))+((((((1))))))*((((((1))))));", 2);
        reads(HEAD + "may:not not not not not not 1=1 and not not not not not not 1=1 or [[[[[[1=1]]]]]];", 2);
        reads(HEAD + "may:((((((1))))))=((((((1))))));", 2);
        reads(HEAD + "tires:(1)+(1)+(1)+(1)+(1)+(1)+(1)+(1);", 2);
        faulty(HEAD + "may:not [not 1=1 and not not not not not 1=1];", 4, 53);
    }

    static void term1_eachWordOfTheLaws() {
        String text = "county places 2;height 0 5;height 1 6;way 0 1;kin at 0 age 8 strength 1;kin at 0 age 7 strength 2;"
            + "bears 1;weather 4;";
        String[] words = {"kin", "age", "strength", "bears", "weather"};
        int[] due = {1, 7, 2, 1, 4};
        for (int i = 0; i < words.length; i++) {
            for (int v = due[i] - 1; v <= due[i] + 1; v++) {
                String truth = words[i] + "=" + (v < 0 ? "0-1" : v);
                BearerKin x = Check.with(text + "tires:if " + truth + " then 1 else 2 end;may:" + truth + ";");
                Check.due("tires by " + truth, x.by(0, 1), v == due[i] ? 1 : 2);
                Check.due("may by " + truth, x.why(111), v == due[i] ? 0 : 4);
            }
        }
        for (int v = 4; v <= 7; v++) {
            BearerKin x = Check.with(text + "tires:if height=" + v + " then 1 else 2 end;may:height=" + v + ";");
            Check.due("height where it is, " + v, x.by(0, 1), v == 5 ? 1 : 2);
            Check.due("height where it goes, " + v, x.why(111), v == 6 ? 0 : 4);
            BearerKin y = Check.with(text + "may:from=" + v + ";tires:if height=" + v + " then 1 else 2 end;");
            Check.due("from, " + v, y.why(111), v == 5 ? 0 : 4);
            if (v == 5) {
                Check.due("height where it came", y.by(111, 1), 2);
            }
        }
        BearerKin z = Check.with(text + "tires:goes+1;");
        Check.due("goes", new long[] {z.by(0, 1), z.by(111, 1), z.by(111, 0), z.by(10, 1)}, 1, 2, 1, 1);
    }

    static void term1_countiesOneBehindTheOther() {
        BearerKin x = new BearerKin();
        for (int i = 0; i < 20; i++) {
            String law = "tires:0" + "+1-1".repeat(90) + "+" + i % 4 + ";";
            Check.due("lines", Check.tell(x, HEAD + "kin at 0;" + law), 3);
            Check.due("law " + i, x.by(0, 0), i % 4);
        }
    }

    static void term1_notAndOrByEachTruth() {
        for (int bits = 0; bits < 8; bits++) {
            boolean a = (bits & 1) != 0;
            boolean b = (bits & 2) != 0;
            boolean c = (bits & 4) != 0;
            holds("A or B and C", bits, a || b && c);
            holds("A and B or C", bits, a && b || c);
            holds("[A or B] and C", bits, (a || b) && c);
            holds("A and [B or C]", bits, a && (b || c));
            holds("not A or B", bits, !a || b);
            holds("not A and B", bits, !a && b);
            holds("not [A or B]", bits, !(a || b));
            holds("not not A", bits, a);
            holds("A or B or C", bits, a || b || c);
            holds("A and B and C", bits, a && b && c);
            holds("not A and not B or not C", bits, !a && !b || !c);
        }
    }

    private static void holds(String truth, int bits, boolean due) {
        String text = truth;
        for (int i = 0; i < 3; i++) {
            text = text.replace("" + (char) ('A' + i), (bits >> i & 1) == 1 ? "1=1" : "1=2");
        }
        BearerKin x = Check.with("county places 2;way 0 1;kin at 0;may:" + text + ";tires:if " + text
            + " then 1 else 2 end;");
        Check.due("may: " + text, x.why(101), due ? 0 : 4);
        Check.due("if " + text, x.by(0, 0), due ? 1 : 2);
    }

    // ---- "Each + - * is kept from -1,000,000 to 1,000,000"

    private static String told(int v) {
        int size = Math.abs(v);
        String sum = "(" + size / 1000 % 1000 + "*(999+1)+" + size % 1000 + ")";
        if (size == 1000000) {
            sum = "(999+1)*(999+1)";
        }
        return v < 0 ? "0-" + sum : sum;
    }

    private static void tells(String sum, int v) {
        for (int other = Math.max(-1000000, v - 1); other <= Math.min(1000000, v + 1); other++) {
            BearerKin x = Check.with(HEAD + "kin at 0;tires:if " + sum + "=" + told(other) + " then 1 else 2 end;");
            Check.due(sum + " is " + other, x.by(0, 0), other == v ? 1 : 2);
        }
    }

    static void term1_plusIsKeptTo1000000() {
        tells("999*(999+1)+999", 999999);
        tells("999*(999+1)+999+1", 1000000);
        tells("999*(999+1)+999+2", 1000000);
        tells("(999+1)*(999+1)+(999+1)*(999+1)", 1000000);
        tells("(999+1)*(999+1)+1-1", 999999);
    }

    static void term1_minusIsKeptToMinus1000000() {
        tells("0-999*(999+1)-999", -999999);
        tells("0-999*(999+1)-999-1", -1000000);
        tells("0-999*(999+1)-999-2", -1000000);
        tells("0-(999+1)*(999+1)-(999+1)*(999+1)", -1000000);
        tells("0-(999+1)*(999+1)-1+1", -999999);
        tells("(999+1)*(999+1)-(0-1)-1", 999999);
    }

    static void term1_timesIsKeptToBothBounds() {
        tells("(999+1)*999", 999000);
        tells("(999+1)*(999+1)", 1000000);
        tells("(999+1)*(999+2)", 1000000);
        tells("(0-999-1)*(999+1)", -1000000);
        tells("(0-999-1)*(999+2)", -1000000);
        tells("(0-999-1)*(0-999-2)", 1000000);
        // by numbers of 32 bits these would wrap around
        tells("(999+1)*(999+1)*((999+1)*(999+1))", 1000000);
        tells("(0-999-1)*(999+1)*((999+1)*(999+1))", -1000000);
        tells("999*999*999*999-1", 999999);
    }
}
