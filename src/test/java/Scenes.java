import java.util.LinkedHashMap;
import java.util.Map;

/**
 * Objects on which refused calls are tried, and a look at all that can be seen of one, so that two objects with
 * and without such a call can be held against each other. To make one and to look at it takes less than the 512
 * calls for which the document promises answers.
 */
final class Scenes {
    /** A new object. */
    static final String NEW = "new";
    /** Three kin of whom 2 bears it at place 2, places 0 to 2; all that can be kept is full but tray 3. */
    static final String RICH = "rich";
    /** Two kin, places 0 and 1, it is down; a tape of 900 bytes, tray 0 without numbers, tray 1 with 40. */
    static final String DOWN = "down";
    /** A county of places 0 and 1 without kin. */
    static final String NO_KIN = "without kin";

    static final String[] ALL = {NEW, RICH, DOWN, NO_KIN};

    interface Call {
        long on(BearerKin x);
    }

    private Scenes() {
    }

    /** The call is refused by a code in each of the scenes, and nothing that can be seen is changed by it. */
    static void refused(String what, long code, Call call, String... scenes) {
        for (String scene : scenes) {
            BearerKin x = make(scene);
            Check.due(what + ", " + scene, call.on(x), code);
            same(what + ", " + scene, look(x), look(make(scene)), "");
        }
    }

    /** As refused, with numbers of 64 bits in tray 3. */
    static void refusedWith(long[] numbers, String what, long code, Call call, String... scenes) {
        for (String scene : scenes) {
            BearerKin x = make(scene);
            put(x, 3, 3, numbers);
            Check.due(what + ", " + scene, call.on(x), code);
            BearerKin y = make(scene);
            put(y, 3, 3, numbers);
            same(what + ", " + scene, look(x), look(y), "");
        }
    }

    /** As refused, on a county told by a text and some deeds in it. */
    static void refusedIn(String text, String what, long code, Call call, int... deeds) {
        BearerKin x = doneIn(text, deeds);
        Check.due(what, call.on(x), code);
        same(what, look(x), look(doneIn(text, deeds)), "");
    }

    private static BearerKin doneIn(String text, int... deeds) {
        BearerKin x = Check.with(text);
        for (int deed : deeds) {
            put(x, 0, 1, deed);
            x.perform(0);
        }
        return x;
    }

    /** As refused, but for what is told of by words that begin so. */
    static void refusedBut(String but, String what, long code, Call call, String... scenes) {
        for (String scene : scenes) {
            BearerKin x = make(scene);
            Check.due(what + ", " + scene, call.on(x), code);
            same(what + ", " + scene, look(x), look(make(scene)), but);
        }
    }

    private static void same(String what, Map<String, Long> got, Map<String, Long> want, String but) {
        for (String name : want.keySet()) {
            if (but.isEmpty() || !name.matches("(" + but + ").*")) {
                Check.due(what + ", changes nothing: " + name, got.getOrDefault(name, Long.MIN_VALUE), want.get(name));
            }
        }
        if (but.isEmpty()) {
            Check.due(what + ", changes nothing: as much is seen", got.size(), want.size());
        }
    }

    static BearerKin make(String scene) {
        switch (scene) {
            case RICH:
                return rich();
            case DOWN:
                return down();
            case NO_KIN:
                return noKin();
            default:
                return new BearerKin();
        }
    }

    private static BearerKin rich() {
        BearerKin x = Check.with("county places 3;height 1 4;height 2 9;way 0 1;way 1 2;kin at 0 age 5;"
            + "kin at 0 age 7 strength 2;kin at 1 strength 1;weather 3;may: strength>0 and height<from+6;");
        x.image(0);
        x.hour(0);
        x.weather(4);
        x.hour(11);
        x.hour(111);
        x.meal(1);
        x.image(1);
        x.hour(12);
        x.hour(122);
        x.weather(0);
        x.weather(9);
        x.weather(2);
        Check.fill(x, 0, 22, 0);
        x.perform(0);
        // of these eleven calls ten can be undone; 2 bears it at 2, strengths 3 3 2, weather 2, hours 6
        put(x, 0, 1, 0, 121, 33, 11);
        put(x, 1, 0, 2, -1);
        put(x, 2, 3, 1, 0, 0);
        Check.tell(x, "county places 2;way 0 0;");
        Check.feed(x, "county places 4;height 2 7;weather 8;");
        return x;
    }

    private static BearerKin down() {
        BearerKin x = Check.with("county places 2;way 0 1;kin at 0 strength 1;kin at 0;");
        x.weather(7);
        x.hour(0);
        x.image(1);
        x.numbers(0, 2, 0);
        x.numbers(1, 0, 40);
        put(x, 2, 2, 0);
        Check.feed(x, "county places 2;weather 9;" + " ".repeat(874));
        return x;
    }

    private static BearerKin noKin() {
        BearerKin x = Check.with("county places 2;height 1 3;way 1 0;weather 5;");
        x.weather(6);
        put(x, 0, 0, 0);
        put(x, 1, 3, 30, 0);
        return x;
    }

    private static void put(BearerKin x, int tray, int sort, long... numbers) {
        x.numbers(tray, sort, numbers.length);
        for (int i = 0; i < numbers.length; i++) {
            x.write(tray, i, numbers[i]);
        }
    }

    /** All that can be seen of an object; it is spent by this. */
    static Map<String, Long> look(BearerKin x) {
        Map<String, Long> seen = new LinkedHashMap<>();
        seen.put("tape, how many bytes", (long) x.count(9));
        seen.put("fault", (long) x.fault(0));
        seen.put("fault, its place", (long) x.fault(1));
        lookAtNow(x, seen, "now");
        lookAtQuestions(x, seen);
        for (int tray = 0; tray < 4; tray++) {
            lookAtTray(x, seen, tray);
        }
        seen.put("how many can be undone", (long) x.count(8));
        for (int i = 1; i <= 10 && x.undo(1) >= 0; i++) {
            lookAtMoment(x, seen, "undone " + i);
        }
        for (int i = 0; i < 2; i++) {
            int answer = x.restore(i);
            seen.put("image " + i, (long) answer);
            if (answer == 0) {
                lookAtNow(x, seen, "image " + i);
            }
        }
        seen.put("tape, read", (long) x.county(x.count(9)));
        for (int what = 0; what < 11; what++) {
            seen.put("tape, read, count " + what, (long) x.count(what));
        }
        return seen;
    }

    private static void lookAtNow(BearerKin x, Map<String, Long> seen, String when) {
        int[] counts = {0, 1, 3, 4, 5, 10};
        for (int what : counts) {
            seen.put(when + ", count " + what, (long) x.count(what));
        }
        for (int k = 0; k < x.count(0); k++) {
            seen.put(when + ", place " + k, x.place(k, 0) * 4096L + x.place(k, 1) * 64L + x.place(k, 2));
        }
        for (int p = 0; p < x.count(1); p++) {
            seen.put(when + ", age " + p, (long) x.kin(p, 1));
        }
        lookAtMoment(x, seen, when);
    }

    /** What undoing brings back. */
    private static void lookAtMoment(BearerKin x, Map<String, Long> seen, String when) {
        seen.put(when + ", bearer", (long) x.count(2));
        seen.put(when + ", weather", (long) x.count(6));
        seen.put(when + ", hours", (long) x.count(7));
        for (int p = 0; p < 3; p++) {
            seen.put(when + ", strength " + p, (long) x.kin(p, 2));
            seen.put(when + ", where is " + p, (long) x.kin(p, 0));
        }
    }

    private static void lookAtQuestions(BearerKin x, Map<String, Long> seen) {
        seen.put("up", (long) x.up());
        seen.put("keeping", (long) x.keeping(1));
        seen.put("rows", x.rows(3));
        seen.put("soonest", (long) x.soonest(0, -1));
        seen.put("stands", (long) x.stands());
        seen.put("lasts", (long) x.lasts());
        seen.put("why", (long) x.why(10));
    }

    /** Its numbers by what they tell as deeds, sights, strengths; how many they are and their sort by writing. */
    private static void lookAtTray(BearerKin x, Map<String, Long> seen, int tray) {
        String name = "tray " + tray;
        for (int what = 0; what < 4; what++) {
            seen.put(name + ", judged " + what, (long) x.judge(tray, what));
        }
        seen.put(name + ", seen", x.seen(tray));
        seen.put(name + ", seenBy", (long) x.seenBy(tray, 1));
        seen.put(name + ", weathers", (long) x.weathers(tray));
        seen.put(name + ", mean", (long) x.mean(tray, 0));
        int low = 0;
        int high = 41;
        while (low < high) {
            int i = (low + high) / 2;
            long cut = x.write(tray, i, 0x7654321076543211L);
            if (cut == -7 || cut == -6) {
                high = i;
            } else {
                seen.put(name + ", sort", cut);
                low = i + 1;
            }
        }
        seen.put(name + ", how many", (long) low);
        seen.put(name + ", is there", x.write(tray, 40, 0));
    }
}
