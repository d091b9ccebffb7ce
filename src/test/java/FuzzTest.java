import java.util.ArrayList;
import java.util.List;
import java.util.Random;

/**
 * Makes the same drawn calls on a BearerKin and on the Model and prints where they differ. The draws are the
 * same each time; "FuzzTest runs seed" makes other ones.
 */
final class FuzzTest {
    private static final String[] WORDS = {"county", "places", "height", "way", "kin", "at", "age", "strength",
        "bears", "weather", "tires", "may", "if", "then", "else", "end", "goes", "from", "or", "and", "not", ";",
        ":", "+", "-", "*", "(", ")", "[", "]", "=", "<", ">", "0", "1", "3", "9", "10", "999", "1000", "moon", "?",
        "A", "\t", "\u00e9"};
    private static final String[] CALLS = {"fault", "place", "kin", "why", "why", "by", "by", "hour", "hour", "hour",
        "hour", "meal", "weather", "undo", "judge", "perform", "century", "up", "keeping", "rows", "needed",
        "soonest", "way", "reach", "bearers", "stands", "seen", "seenBy", "suspects", "weathers", "attempt",
        "lasts", "best", "chance", "mean", "numbers", "write", "lists", "image", "restore", "count", "fill",
        "fill", "fill", "fill"};

    private final Random random;
    private BearerKin kin;
    private Model model;
    private final List<String> log = new ArrayList<>();
    private int calls;
    private int wrong;

    FuzzTest(long seed) {
        random = new Random(seed);
    }

    public static void main(String[] args) {
        int runs = args.length > 0 ? Integer.parseInt(args[0]) : 250;
        long seed = args.length > 1 ? Long.parseLong(args[1]) : 1;
        int wrong = 0;
        for (int run = 0; run < runs && wrong < 5; run++) {
            FuzzTest test = new FuzzTest(seed * 1000003 + run);
            test.drawRun(run % 5 == 0);
            wrong += test.wrong;
        }
        System.out.println(wrong == 0 ? "drawn calls: all as the model has it" : "drawn calls: " + wrong + " wrong");
        if (wrong != 0) {
            System.exit(1);
        }
    }

    private int below(int n) {
        return random.nextInt(n);
    }

    private boolean oneOf(int n) {
        return random.nextInt(n) == 0;
    }

    private void drawRun(boolean ofTexts) {
        kin = new BearerKin();
        model = new Model();
        if (ofTexts) {
            while (calls < 470 && wrong == 0) {
                tellCounty(oneOf(6) ? drawCounty() : spoil(drawCounty()));
                check("fault", 0);
                check("fault", 1);
                check("count", below(12) - 1);
            }
            return;
        }
        if (!oneOf(10)) {
            tellCounty(drawCounty());
        }
        int most = 60 + below(300);
        while (calls < most && wrong == 0) {
            if (oneOf(40)) {
                tellCounty(oneOf(5) ? spoil(drawCounty()) : drawCounty());
            }
            drawCall();
        }
    }

    // ---- texts

    private String blank() {
        return oneOf(8) ? "\n" : oneOf(8) ? "  " : " ";
    }

    private String drawCounty() {
        int kins = oneOf(9) ? 0 : 1 + below(3);
        int places = 1 + below(kins == 3 ? 3 : 5);
        if (oneOf(60)) {
            places = 5;
        }
        List<String> lines = new ArrayList<>();
        for (int i = below(places + 1); i > 0; i--) {
            lines.add("height " + below(places) + " " + below(10));
        }
        for (int i = places == 1 ? 0 : below(2 * places + 1); i > 0; i--) {
            int a = below(places);
            lines.add("way " + a + " " + (a + 1 + below(places - 1)) % places);
        }
        int home = below(places);
        for (int i = 0; i < kins; i++) {
            StringBuilder line = new StringBuilder("kin at ").append(oneOf(3) ? below(places) : home);
            while (oneOf(2)) {
                line.append(oneOf(2) ? " age " + below(10) : " strength " + (oneOf(2) ? 3 : below(4)));
            }
            lines.add(line.toString());
        }
        if (oneOf(2)) {
            lines.add("weather " + below(10));
        }
        if (!oneOf(3)) {
            lines.add("tires: " + drawTires());
        }
        if (oneOf(2)) {
            lines.add("may: " + (oneOf(2) ? "strength>0 and " : "") + truth(2, "from"));
        }
        java.util.Collections.shuffle(lines, random);
        if (kins > 0 && oneOf(2)) {
            lines.add("bears " + below(kins));
        }
        StringBuilder text = new StringBuilder("county places " + places + ";");
        for (String line : lines) {
            text.append(oneOf(2) ? "" : blank()).append(line).append(oneOf(9) ? blank() : "").append(';');
        }
        return text.length() > 880 ? "county places 1;" : text.toString();
    }

    private String drawTires() {
        switch (below(9)) {
            case 3:
                return "if bears=0 then strength+1 else if weather<" + below(10) + " then strength else strength-1 end end";
            case 4:
                return "strength+1-bears*2-weather*bears+" + below(10) + "*bears";
            case 5:
                return "if bears=1 then strength-if height>" + below(9) + " then 1 else 0 end else 3-goes end";
            case 6:
                return "strength - bears*if weather>" + below(10) + " then 1 else 0 end+if kin=" + below(3)
                    + " then 0 else 1-goes end";
            case 7:
                return "if bears=1 and goes=1 then strength-1 else strength+(weather-" + below(10) + ")*(1-bears) end";
            case 0:
                return "if bears=1 then strength-1 else strength+" + sum(1, "goes") + " end";
            case 1:
                return "strength-" + sum(1, "goes") + "*bears+1-bears";
            case 2:
                return "strength+1-bears*if " + truth(1, "goes") + " then 1 else 2 end";
            default:
                return sum(3, "goes");
        }
    }

    private String sum(int deep, String last) {
        String text = term(deep, last);
        while (oneOf(3)) {
            text += (oneOf(2) ? "+" : " - ") + term(deep, last);
        }
        return text;
    }

    private String term(int deep, String last) {
        String text = atom(deep, last);
        while (oneOf(5)) {
            text += "*" + atom(deep, last);
        }
        return text;
    }

    private String atom(int deep, String last) {
        if (deep > 0 && oneOf(4)) {
            return "(" + sum(deep - 1, last) + ")";
        }
        if (deep > 0 && oneOf(4)) {
            return " if " + truth(deep - 1, last) + " then " + sum(deep - 1, last) + " else " + sum(deep - 1, last)
                + " end ";
        }
        String[] facts = {"kin", "age", "strength", "strength", "bears", "weather", "height", last, "0", "1", "2",
            "3", oneOf(9) ? "999" : "4"};
        return facts[below(facts.length)];
    }

    private String truth(int deep, String last) {
        String text = unit(deep, last);
        while (oneOf(4)) {
            text += (oneOf(2) ? " or " : " and ") + unit(deep, last);
        }
        return text;
    }

    private String unit(int deep, String last) {
        if (deep > 0 && oneOf(5)) {
            return " not " + unit(deep - 1, last);
        }
        if (deep > 0 && oneOf(5)) {
            return "[" + truth(deep - 1, last) + "]";
        }
        return sum(deep, last) + "=<>".charAt(below(3)) + sum(deep, last);
    }

    private String spoil(String text) {
        StringBuilder spoilt = new StringBuilder(text);
        for (int i = 1 + below(2); i > 0; i--) {
            int at = below(spoilt.length() + 1);
            int to = Math.min(spoilt.length(), at + below(5));
            switch (below(9)) {
                case 6:
                case 7:
                case 8:
                    for (int j = 0; j < spoilt.length(); j++) {
                        int k = (at + j) % spoilt.length();
                        if (Character.isDigit(spoilt.charAt(k))) {
                            spoilt.replace(k, k + 1, "" + (oneOf(3) ? below(1500) : below(11)));
                            break;
                        }
                    }
                    break;
                case 0:
                    spoilt.delete(at, to);
                    break;
                case 1:
                    spoilt.setLength(at);
                    break;
                case 2:
                    String nest = new String[] {"(", "[", "not ", "if ", "not not "}[below(5)];
                    int law = Math.max(spoilt.indexOf("="), spoilt.indexOf(":"));
                    spoilt.insert(law < 0 ? at : law + 1, nest.repeat(1 + below(7)));
                    break;
                case 3:
                    spoilt.insert(at, "kin at 0;");
                    break;
                default:
                    String word = WORDS[below(WORDS.length)];
                    spoilt.insert(at, oneOf(2) ? word : " " + word + " ");
                    break;
            }
        }
        return spoilt.length() > 880 ? "county places 1;" : spoilt.toString();
    }

    private void tellCounty(String text) {
        StringBuilder padded = new StringBuilder(text);
        while (padded.length() % 20 != 0) {
            padded.append((char) (oneOf(2) ? 32 : below(256)));
        }
        log.add("// " + text);
        for (int i = 0; i < padded.length(); i += 20) {
            long[] ints = new long[5];
            for (int j = 0; j < 20; j++) {
                ints[j / 4] = (int) (ints[j / 4] << 8 | padded.charAt(i + j));
            }
            check("feed", ints);
        }
        if (oneOf(20)) {
            check("county", model.tape.length() + 1);
            check("county", -1);
        }
        check("county", oneOf(30) ? below(padded.length() + 1) : text.length());
    }

    // ---- calls

    private int drawDeed() {
        int kins = model.county.kin.size();
        switch (below(7)) {
            case 0:
                return 0;
            case 1:
                return 10 + below(kins + 1);
            case 2:
                return 20 + below(20);
            case 3:
                return below(210) - 5;
            default:
                return 100 + 10 * below(kins + 1) + below(model.county.places + 1);
        }
    }

    private int near(int most) {
        return oneOf(12) ? -1 : oneOf(12) ? most + 1 : oneOf(60) ? Integer.MIN_VALUE : below(most + 1);
    }

    private int tray() {
        return oneOf(15) ? below(7) - 1 : below(2);
    }

    private void fill() {
        int tray = below(2);
        int kind = below(4);
        int n = kind == 0 ? below(12) : 1 + below(kind == 2 ? 6 : 8);
        if (oneOf(30)) {
            n = below(41);
        }
        check("numbers", tray, below(4), n);
        List<Integer> hours = new ArrayList<>();
        for (int d = 0; d < 200; d++) {
            if (model.call("why", d) != 1) {
                hours.add(d);
            }
        }
        List<Integer> told = kind == 1 ? drawSeen(n, hours) : kind == 3 ? drawTired(n) : new ArrayList<>();
        for (int i = 0; i < n && i < 10; i++) {
            long v = kind == 0 ? drawDeed() : kind == 1 ? below(model.county.places + 2) - 1
                : kind == 2 ? hours.get(below(hours.size())) : below(4);
            if (i < told.size()) {
                v = told.get(i);
            }
            check("write", tray, i, oneOf(200) ? random.nextLong() : v);
        }
        String[] uses = kind == 0 ? new String[] {"judge", "perform"}
            : kind == 1 ? new String[] {"seen", "seenBy", "suspects"}
            : kind == 2 ? new String[] {"chance", "mean", "judge"} : new String[] {"weathers", "attempt"};
        for (String use : uses) {
            for (int i = 0; i < 3; i++) {
                switch (use) {
                    case "seenBy":
                    case "suspects":
                        check(use, tray, near(8));
                        break;
                    case "judge":
                    case "chance":
                    case "mean":
                        check(use, tray, i);
                        break;
                    default:
                        check(use, tray);
                        break;
                }
            }
        }
    }

    /** Where it was in hours that were drawn, so that some rows are like them. */
    private List<Integer> drawSeen(int n, List<Integer> hours) {
        List<Integer> told = new ArrayList<>();
        Model.Stand was = model.stand;
        int hoursWere = model.hours;
        List<Model.Moment> past = new ArrayList<>(model.past);
        for (int i = 0; i < n && !model.stand.down(); i++) {
            model.call("hour", hours.get(below(hours.size())));
            told.add(oneOf(3) ? -1 : oneOf(15) ? below(model.county.places) : model.stand.where());
        }
        model.stand = was;
        model.hours = hoursWere;
        model.past.clear();
        model.past.addAll(past);
        return told;
    }

    /** How the bearer tires by a weather that was drawn. */
    private List<Integer> drawTired(int n) {
        List<Integer> told = new ArrayList<>();
        Model.Stand was = model.stand;
        int sky = model.weather;
        int hoursWere = model.hours;
        List<Model.Moment> past = new ArrayList<>(model.past);
        model.weather = below(10);
        for (int i = 0; i < n && !was.strengths.isEmpty(); i++) {
            model.call("hour", 0);
            told.add(model.stand.strengths.get(model.stand.bearer));
        }
        model.stand = was;
        model.weather = sky;
        model.hours = hoursWere;
        model.past.clear();
        model.past.addAll(past);
        return told;
    }

    private void standUp() {
        int kins = model.county.kin.size();
        for (int p = 0; p < kins; p++) {
            if (p == model.stand.bearer || oneOf(2)) {
                check("meal", p);
            }
        }
        if (kins == 0 && oneOf(9)) {
            tellCounty(drawCounty());
        }
    }

    private void drawCall() {
        if (model.stand.down() && oneOf(2)) {
            standUp();
        }
        String name = CALLS[below(CALLS.length)];
        int places = model.county.places;
        int kins = model.county.kin.size();
        switch (name) {
            case "fill":
                fill();
                break;
            case "fault":
            case "image":
            case "restore":
                check(name, near(2));
                break;
            case "place":
                check(name, near(places), near(3));
                break;
            case "kin":
                check(name, near(kins), near(4));
                break;
            case "why":
            case "hour":
                check(name, drawDeed());
                break;
            case "by":
                check(name, drawDeed(), near(kins));
                break;
            case "meal":
                check(name, near(kins));
                break;
            case "weather":
                check(name, near(9));
                break;
            case "undo":
                check(name, oneOf(3) ? near(11) : 1);
                break;
            case "judge":
            case "chance":
            case "mean":
                check(name, tray(), near(3));
                break;
            case "century":
                check(name, random.nextInt(), oneOf(2) ? near(40) : 1 + below(4));
                break;
            case "keeping":
                check(name, oneOf(2) ? near(99) : below(9));
                break;
            case "rows":
                check(name, near(8));
                break;
            case "needed":
                check(name, near(20));
                break;
            case "soonest":
                check(name, near(places - 1), oneOf(2) ? -1 : near(kins));
                break;
            case "way":
                check(name, near(places - 1), oneOf(2) ? -1 : near(kins), near(4));
                break;
            case "seenBy":
            case "suspects":
                check(name, tray(), near(8));
                break;
            case "perform":
            case "seen":
            case "weathers":
            case "attempt":
                check(name, tray());
                break;
            case "numbers":
                check(name, tray(), near(3), near(40));
                break;
            case "write":
                check(name, tray(), near(8), random.nextLong() >> below(64));
                break;
            case "lists":
                check(name, tray(), near(places - 1), oneOf(2) ? -1 : near(kins));
                break;
            case "count":
                check(name, near(11));
                break;
            default:
                check(name);
                break;
        }
        if (oneOf(4)) {
            checkState();
        }
    }

    private void checkState() {
        for (int p = 0; p < model.county.kin.size(); p++) {
            check("kin", p, 0);
            check("kin", p, 2);
        }
        for (int what : new int[] {2, 6, 7, 8}) {
            check("count", what);
        }
    }

    private void check(String name, long... a) {
        if (wrong > 0 || calls >= 512) {
            return;
        }
        calls++;
        StringBuilder told = new StringBuilder(name).append('(');
        for (int i = 0; i < a.length; i++) {
            told.append(i == 0 ? "" : ", ").append(a[i]);
        }
        long want = model.call(name, a);
        long got = make(name, a);
        log.add(told + ") " + got);
        if (got != want) {
            wrong++;
            for (String line : log) {
                System.out.println("  " + line);
            }
            System.out.println("the model has " + want);
        }
    }

    private long make(String name, long[] a) {
        int x = a.length > 0 ? (int) a[0] : 0;
        int y = a.length > 1 ? (int) a[1] : 0;
        int z = a.length > 2 ? (int) a[2] : 0;
        switch (name) {
            case "feed": return kin.feed(x, y, z, (int) a[3], (int) a[4]);
            case "county": return kin.county(x);
            case "fault": return kin.fault(x);
            case "place": return kin.place(x, y);
            case "kin": return kin.kin(x, y);
            case "why": return kin.why(x);
            case "by": return kin.by(x, y);
            case "hour": return kin.hour(x);
            case "meal": return kin.meal(x);
            case "weather": return kin.weather(x);
            case "undo": return kin.undo(x);
            case "judge": return kin.judge(x, y);
            case "perform": return kin.perform(x);
            case "century": return kin.century(x, y);
            case "up": return kin.up();
            case "keeping": return kin.keeping(x);
            case "rows": return kin.rows(x);
            case "needed": return kin.needed(x);
            case "soonest": return kin.soonest(x, y);
            case "way": return kin.way(x, y, z);
            case "reach": return kin.reach();
            case "bearers": return kin.bearers();
            case "stands": return kin.stands();
            case "seen": return kin.seen(x);
            case "seenBy": return kin.seenBy(x, y);
            case "suspects": return kin.suspects(x, y);
            case "weathers": return kin.weathers(x);
            case "attempt": return kin.attempt(x);
            case "lasts": return kin.lasts();
            case "best": return kin.best();
            case "chance": return kin.chance(x, y);
            case "mean": return kin.mean(x, y);
            case "numbers": return kin.numbers(x, y, z);
            case "write": return kin.write(x, y, a[2]);
            case "lists": return kin.lists(x, y, z);
            case "image": return kin.image(x);
            case "restore": return kin.restore(x);
            case "count": return kin.count(x);
            default: throw new IllegalStateException(name);
        }
    }
}
