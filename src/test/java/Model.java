import java.math.BigInteger;
import java.util.ArrayList;
import java.util.Arrays;
import java.util.HashMap;
import java.util.LinkedHashMap;
import java.util.LinkedHashSet;
import java.util.List;
import java.util.Map;
import java.util.Set;
import java.util.TreeMap;

/**
 * The document read once more, as plainly as can be and without a thought of speed or room, so that FuzzTest
 * can hold BearerKin against it. It shares no code with BearerKin.
 */
final class Model {
    static final int NONE = -1;

    /** What a refused call answers. */
    static final class Refused extends RuntimeException {
        final int code;

        Refused(int code) {
            super(null, null, false, false);
            this.code = code;
        }
    }

    static final class Fault extends RuntimeException {
        final int kind;
        final int at;

        Fault(int kind, int at) {
            super(null, null, false, false);
            this.kind = kind;
            this.at = at;
        }
    }

    interface Sum {
        long of(Map<String, Integer> facts);
    }

    interface Truth {
        boolean of(Map<String, Integer> facts);
    }

    static final class Token {
        final String text;
        final int at;

        Token(String text, int at) {
            this.text = text;
            this.at = at;
        }

        boolean isNumber() {
            return !text.isEmpty() && Character.isDigit(text.charAt(0));
        }
    }

    static final class County {
        int places = 1;
        int lines = 0;
        int[] heights = new int[5];
        boolean[][] ways = new boolean[5][5];
        List<int[]> kin = new ArrayList<>(); // place, age, strength
        int bearer = 0;
        int weather = 0;
        Sum tires;
        Truth may;
    }

    /** How all are: places, strengths, the bearer. */
    static final class Stand {
        final List<Integer> places;
        final List<Integer> strengths;
        final int bearer;

        Stand(List<Integer> places, List<Integer> strengths, int bearer) {
            this.places = places;
            this.strengths = strengths;
            this.bearer = bearer;
        }

        @Override
        public boolean equals(Object o) {
            return o instanceof Stand s && s.places.equals(places) && s.strengths.equals(strengths)
                && s.bearer == bearer;
        }

        @Override
        public int hashCode() {
            return places.hashCode() * 961 + strengths.hashCode() * 31 + bearer;
        }

        boolean down() {
            return strengths.isEmpty() || strengths.get(bearer) == 0;
        }

        int where() {
            return places.isEmpty() ? NONE : places.get(bearer);
        }

        int sum() {
            int sum = 0;
            for (int s : strengths) {
                sum += s;
            }
            return sum;
        }

        Stand with(int p, int strength) {
            List<Integer> others = new ArrayList<>(strengths);
            others.set(p, strength);
            return new Stand(places, others, bearer);
        }

        Stand wearied(int p) {
            return with(p, Math.max(0, strengths.get(p) - 1));
        }
    }

    static final class Moment {
        final County county;
        final Stand stand;
        final int weather;
        final int hours;

        Moment(County county, Stand stand, int weather, int hours) {
            this.county = county;
            this.stand = stand;
            this.weather = weather;
            this.hours = hours;
        }
    }

    // ---- the text

    static final class Text {
        final List<Token> tokens = new ArrayList<>();
        int next = 0;
        int open = 0;
        String law = "";
        final County county = new County();

        Text(String text) {
            int i = 0;
            while (i < text.length()) {
                char c = text.charAt(i);
                if (c == 10 || c == 32) {
                    i++;
                    continue;
                }
                int j = i;
                while (j < text.length() && isLetter(c) && isLetter(text.charAt(j))) {
                    j++;
                }
                while (j < text.length() && isDigit(c) && isDigit(text.charAt(j))) {
                    j++;
                }
                if (j == i) {
                    j = i + 1;
                    if (!";:+-*()[]=<>".contains("" + c)) {
                        tokens.add(new Token("?", i));
                        return;
                    }
                }
                if (isDigit(c) && j - i > 3) {
                    tokens.add(new Token("?", i));
                    return;
                }
                tokens.add(new Token(text.substring(i, j), i));
                i = j;
            }
            tokens.add(new Token("", text.length()));
        }

        static boolean isLetter(char c) {
            return c >= 'a' && c <= 'z';
        }

        static boolean isDigit(char c) {
            return c >= '0' && c <= '9';
        }

        Token here() {
            Token t = tokens.get(next);
            if (t.text.equals("?")) {
                throw new Fault(1, t.at);
            }
            return t;
        }

        boolean sees(String text) {
            return here().text.equals(text);
        }

        void need(String text) {
            if (!sees(text)) {
                throw new Fault(2, here().at);
            }
            next++;
        }

        boolean takes(String text) {
            if (sees(text)) {
                next++;
                return true;
            }
            return false;
        }

        int number(int low, int high, int not) {
            if (!here().isNumber()) {
                throw new Fault(2, here().at);
            }
            int n = Integer.parseInt(here().text);
            if (n < low || n > high || n == not) {
                throw new Fault(3, here().at);
            }
            next++;
            return n;
        }

        County read() {
            need("county");
            need("places");
            county.places = number(1, 5, -1);
            need(";");
            county.lines = 1;
            while (!sees("")) {
                readLine();
                need(";");
                county.lines++;
            }
            return county;
        }

        void readLine() {
            int last = county.places - 1;
            if (takes("height")) {
                int k = number(0, last, -1);
                county.heights[k] = number(0, 9, -1);
            } else if (takes("way")) {
                int a = number(0, last, -1);
                int b = number(0, last, a);
                county.ways[a][b] = true;
                county.ways[b][a] = true;
            } else if (sees("kin")) {
                if (county.kin.size() == 3) {
                    throw new Fault(4, here().at);
                }
                need("kin");
                need("at");
                int[] one = {number(0, last, -1), 0, 3};
                while (sees("age") || sees("strength")) {
                    if (takes("age")) {
                        one[1] = number(0, 9, -1);
                    } else {
                        need("strength");
                        one[2] = number(0, 3, -1);
                    }
                }
                county.kin.add(one);
            } else if (takes("bears")) {
                county.bearer = number(0, county.kin.size() - 1, -1);
            } else if (takes("weather")) {
                county.weather = number(0, 9, -1);
            } else if (takes("tires")) {
                need(":");
                law = "goes";
                county.tires = sum();
            } else if (takes("may")) {
                need(":");
                law = "from";
                county.may = truth();
            } else {
                throw new Fault(2, here().at);
            }
        }

        void deeper() {
            if (open == 6) {
                throw new Fault(4, here().at);
            }
            open++;
            next++;
        }

        static long kept(long v) {
            return v > 1000000 ? 1000000 : v < -1000000 ? -1000000 : v;
        }

        Sum sum() {
            Sum left = term();
            while (true) {
                Sum a = left;
                if (takes("+")) {
                    Sum b = term();
                    left = f -> kept(a.of(f) + b.of(f));
                } else if (takes("-")) {
                    Sum b = term();
                    left = f -> kept(a.of(f) - b.of(f));
                } else {
                    return left;
                }
            }
        }

        Sum term() {
            Sum left = atom();
            while (takes("*")) {
                Sum a = left;
                Sum b = atom();
                left = f -> kept(a.of(f) * b.of(f));
            }
            return left;
        }

        Sum atom() {
            Token t = here();
            if (t.isNumber()) {
                next++;
                long n = Long.parseLong(t.text);
                return f -> n;
            }
            if (t.text.equals("(")) {
                deeper();
                Sum inner = sum();
                need(")");
                open--;
                return inner;
            }
            if (t.text.equals("if")) {
                deeper();
                Truth c = truth();
                need("then");
                Sum a = sum();
                need("else");
                Sum b = sum();
                need("end");
                open--;
                return f -> c.of(f) ? a.of(f) : b.of(f);
            }
            if (List.of("kin", "age", "strength", "bears", "weather", "height", law).contains(t.text)) {
                next++;
                return f -> f.get(t.text);
            }
            throw new Fault(2, t.at);
        }

        Truth truth() {
            Truth left = both();
            while (takes("or")) {
                Truth a = left;
                Truth b = both();
                left = f -> a.of(f) || b.of(f);
            }
            return left;
        }

        Truth both() {
            Truth left = unit();
            while (takes("and")) {
                Truth a = left;
                Truth b = unit();
                left = f -> a.of(f) && b.of(f);
            }
            return left;
        }

        Truth unit() {
            if (sees("not")) {
                deeper();
                Truth inner = unit();
                open--;
                return f -> !inner.of(f);
            }
            if (sees("[")) {
                deeper();
                Truth inner = truth();
                need("]");
                open--;
                return inner;
            }
            Sum a = sum();
            if (takes("=")) {
                Sum b = sum();
                return f -> a.of(f) == b.of(f);
            }
            if (takes("<")) {
                Sum b = sum();
                return f -> a.of(f) < b.of(f);
            }
            need(">");
            Sum b = sum();
            return f -> a.of(f) > b.of(f);
        }
    }

    // ---- the state

    final StringBuilder tape = new StringBuilder();
    County county = new County();
    Stand stand = new Stand(List.of(), List.of(), 0);
    int weather = 0;
    int hours = 0;
    final List<Moment> past = new ArrayList<>();
    final long[][] trays = new long[4][];
    final int[] sorts = new int[4];
    final Moment[] images = new Moment[2];
    int faultKind = 0;
    int faultAt = NONE;

    /** Makes a call by its name: the answer, or the code by which it is refused. */
    long call(String name, long... a) {
        try {
            return answer(name, a);
        } catch (Refused r) {
            return r.code;
        }
    }

    private long answer(String name, long[] a) {
        int x = a.length > 0 ? (int) a[0] : 0;
        int y = a.length > 1 ? (int) a[1] : 0;
        int z = a.length > 2 ? (int) a[2] : 0;
        switch (name) {
            case "feed": return feed(a);
            case "county": return county(x);
            case "fault": return x == 0 ? faultKind : x == 1 ? faultAt : NONE;
            case "place": return place(x, y);
            case "kin": return kin(x, y);
            case "why": return whyHour(stand, weather, x);
            case "by": return by(x, y);
            case "hour": return hour(x);
            case "meal": return meal(x);
            case "weather": return weather(x);
            case "undo": return undo(x);
            case "judge": return judge(x, y);
            case "perform": return perform(x);
            case "century": return century(x, y);
            case "up": return up();
            case "keeping": return keeping(x);
            case "rows": return rows(x);
            case "needed": return needed(x);
            case "soonest": return soonest(x, y);
            case "way": return way(x, y, z);
            case "reach": return reach(false);
            case "bearers": return reach(true);
            case "stands": return closure(stand).size();
            case "seen": return seen(x);
            case "seenBy": return seenBy(x, y);
            case "suspects": return suspects(x, y);
            case "weathers": return bits(tired(x));
            case "attempt": return attempt(x);
            case "lasts": return lasts();
            case "best": return best();
            case "chance": return chance(x, y, false);
            case "mean": return chance(x, y, true);
            case "numbers": return numbers(x, y, z);
            case "write": return write(x, y, a[2]);
            case "lists": return lists(x, y, z);
            case "image": return image(x);
            case "restore": return restore(x);
            case "count": return count(x);
            default: throw new IllegalStateException(name);
        }
    }

    private static void refuseIf(boolean so, int code) {
        if (so) {
            throw new Refused(code);
        }
    }

    private boolean isKin(long p) {
        return p >= 0 && p < county.kin.size();
    }

    private boolean isPlace(long k) {
        return k >= 0 && k < county.places;
    }

    // ---- the county

    private int feed(long[] a) {
        refuseIf(tape.length() + 20 > 900, -5);
        for (long four : a) {
            for (int i = 3; i >= 0; i--) {
                tape.append((char) ((int) four >>> 8 * i & 255));
            }
        }
        return tape.length();
    }

    private int county(int n) {
        refuseIf(n < 0 || n > tape.length(), -3);
        String text = tape.substring(0, n);
        tape.setLength(0);
        try {
            County told = new Text(text).read();
            faultKind = 0;
            faultAt = NONE;
            county = told;
        } catch (Fault f) {
            faultKind = f.kind;
            faultAt = f.at;
            throw new Refused(-30 - f.kind);
        }
        List<Integer> places = new ArrayList<>();
        List<Integer> strengths = new ArrayList<>();
        for (int[] one : county.kin) {
            places.add(one[0]);
            strengths.add(one[2]);
        }
        stand = new Stand(places, strengths, county.bearer);
        weather = county.weather;
        hours = 0;
        past.clear();
        return county.lines;
    }

    private int place(int k, int what) {
        refuseIf(!isPlace(k) || what < 0 || what > 2, -2);
        if (what == 0) {
            return county.heights[k];
        }
        int bits = 0;
        for (int i = 0; i < 5; i++) {
            boolean in = what == 1 ? county.ways[k][i] : isKin(i) && stand.places.get(i) == k;
            bits += in ? 1 << i : 0;
        }
        return bits;
    }

    private int kin(int p, int what) {
        refuseIf(!isKin(p) || what < 0 || what > 3, -2);
        return new int[] {stand.places.get(p), county.kin.get(p)[1], stand.strengths.get(p),
            stand.bearer == p ? 1 : 0}[what];
    }

    private boolean isHour(long deed) {
        return deed == 0 || deed >= 10 && deed <= 19 && isKin(deed - 10)
            || deed >= 100 && deed <= 199 && isKin((deed - 100) / 10) && isPlace(deed % 10);
    }

    private Map<String, Integer> facts(Stand s, int sky, int p) {
        Map<String, Integer> f = new HashMap<>();
        f.put("kin", p);
        f.put("age", county.kin.get(p)[1]);
        f.put("strength", s.strengths.get(p));
        f.put("bears", s.bearer == p ? 1 : 0);
        f.put("weather", sky);
        f.put("height", county.heights[s.places.get(p)]);
        return f;
    }

    private int whyHour(Stand s, int sky, long deed) {
        if (!isHour(deed)) {
            return 1;
        }
        if (s.down()) {
            return 2;
        }
        if (deed == 0) {
            return 0;
        }
        if (deed < 100) {
            int q = (int) deed - 10;
            if (q == s.bearer || s.where() != s.places.get(q)) {
                return 3;
            }
            return s.strengths.get(q) < 1 ? 4 : 0;
        }
        int p = (int) (deed - 100) / 10;
        int to = (int) deed % 10;
        int from = s.places.get(p);
        if (!county.ways[from][to]) {
            return 3;
        }
        if (county.may == null) {
            return s.strengths.get(p) >= 1 ? 0 : 4;
        }
        Map<String, Integer> f = facts(s, sky, p);
        f.put("height", county.heights[to]);
        f.put("from", county.heights[from]);
        return county.may.of(f) ? 0 : 4;
    }

    private Stand afterHour(Stand s, int sky, long deed) {
        List<Integer> places = new ArrayList<>(s.places);
        int bearer = s.bearer;
        int goer = NONE;
        if (deed >= 100) {
            goer = (int) (deed - 100) / 10;
            places.set(goer, (int) deed % 10);
        } else if (deed >= 10) {
            bearer = (int) deed - 10;
        }
        Stand moved = new Stand(places, s.strengths, bearer);
        List<Integer> strengths = new ArrayList<>();
        for (int p = 0; p < places.size(); p++) {
            long v = s.strengths.get(p);
            if (county.tires == null) {
                v += p == bearer ? -1 : p == goer ? 0 : 1;
            } else {
                Map<String, Integer> f = facts(moved, sky, p);
                f.put("goes", p == goer ? 1 : 0);
                v = county.tires.of(f);
            }
            strengths.add((int) Math.max(0, Math.min(3, v)));
        }
        return new Stand(places, strengths, bearer);
    }

    private List<Integer> allHours() {
        List<Integer> all = new ArrayList<>();
        for (int d = 0; d < 200; d++) {
            if (isHour(d)) {
                all.add(d);
            }
        }
        return all;
    }

    /** What an hour can bring, by deeds; asked once for each stand of a question. */
    private Map<Stand, Map<Integer, Stand>> known = new HashMap<>();
    private County knownCounty;
    private int knownWeather;

    private Map<Integer, Stand> hoursFrom(Stand s) {
        if (knownCounty != county || knownWeather != weather) {
            known.clear();
            knownCounty = county;
            knownWeather = weather;
        }
        Map<Integer, Stand> from = known.get(s);
        if (from == null) {
            from = new TreeMap<>();
            for (int d : allHours()) {
                if (whyHour(s, weather, d) == 0) {
                    from.put(d, afterHour(s, weather, d));
                }
            }
            known.put(s, from);
        }
        return from;
    }

    private int by(int deed, int p) {
        refuseIf(!isKin(p), -2);
        refuseIf(whyHour(stand, weather, deed) != 0, -5);
        return afterHour(stand, weather, deed).strengths.get(p);
    }

    // ---- deeds

    private Moment moment() {
        return new Moment(county, stand, weather, hours);
    }

    private void back(Moment m) {
        county = m.county;
        stand = m.stand;
        weather = m.weather;
        hours = m.hours;
    }

    private void undoable(Moment before) {
        past.add(before);
        if (past.size() > 10) {
            past.remove(0);
        }
    }

    private int act(long deed) {
        if (deed >= 20 && deed <= 29) {
            if (!isKin(deed - 20)) {
                return 1;
            }
            stand = stand.with((int) deed - 20, 3);
            return 0;
        }
        if (deed >= 30 && deed <= 39) {
            weather = (int) deed - 30;
            return 0;
        }
        int why = whyHour(stand, weather, deed);
        if (why == 0) {
            stand = afterHour(stand, weather, deed);
            hours++;
        }
        return why;
    }

    private int hour(int deed) {
        int why = whyHour(stand, weather, deed);
        refuseIf(why != 0, -10 - why);
        undoable(moment());
        act(deed);
        return stand.down() ? 0 : 1;
    }

    private int meal(int p) {
        refuseIf(!isKin(p), -11);
        undoable(moment());
        int was = stand.strengths.get(p);
        act(20 + p);
        return was;
    }

    private int weather(int n) {
        refuseIf(n < 0 || n > 9, -11);
        undoable(moment());
        int was = weather;
        weather = n;
        return was;
    }

    private int undo(int n) {
        refuseIf(n < 1 || n > 10 || n > past.size(), -3);
        Moment m = null;
        for (int i = 0; i < n; i++) {
            m = past.remove(past.size() - 1);
        }
        back(m);
        return past.size();
    }

    private long[] tray(int t) {
        refuseIf(t < 0 || t > 3, -2);
        refuseIf(trays[t] == null, -6);
        return trays[t];
    }

    private int judge(int t, int what) {
        refuseIf(t < 0 || t > 3 || what < 0 || what > 3, -2);
        long[] deeds = tray(t);
        Moment before = moment();
        int at = NONE;
        int why = 0;
        for (int i = 0; i < deeds.length && why == 0; i++) {
            why = act(deeds[i]);
            at = why == 0 ? NONE : i;
        }
        int where = stand.where();
        int strength = county.kin.isEmpty() ? 0 : stand.strengths.get(stand.bearer);
        back(before);
        return new int[] {at, why, where, strength}[what];
    }

    private int perform(int t) {
        long[] deeds = tray(t);
        Moment before = moment();
        int done = 0;
        while (done < deeds.length && act(deeds[done]) == 0) {
            done++;
        }
        if (done > 0) {
            undoable(before);
        }
        return done;
    }

    private int x;

    private int draw(int mod) {
        x = 1103515245 * x + 12345;
        return (x >>> 16) % mod;
    }

    private int century(int seed, int times) {
        refuseIf(times < 1 || times > 40, -3);
        Moment before = moment();
        x = seed;
        int done = 0;
        for (int i = 0; i < times; i++) {
            int kind = draw(6);
            int deed = 0;
            if (kind == 1) {
                deed = 10 + draw(3);
            } else if (kind == 2 || kind == 3) {
                deed = 100 + 10 * draw(3);
                deed += draw(5);
            } else if (kind == 4) {
                deed = 20 + draw(3);
            } else if (kind == 5) {
                deed = 30 + draw(10);
            }
            if (act(deed) == 0) {
                done++;
            }
        }
        if (done > 0) {
            undoable(before);
        }
        return done;
    }

    // ---- kept up

    /** All stands by some row, this one, too. */
    private Set<Stand> closure(Stand from) {
        Set<Stand> met = new LinkedHashSet<>();
        List<Stand> todo = new ArrayList<>();
        met.add(from);
        todo.add(from);
        while (!todo.isEmpty()) {
            for (Stand next : hoursFrom(todo.remove(0)).values()) {
                if (met.add(next)) {
                    todo.add(next);
                }
            }
        }
        return met;
    }

    private static boolean without(int deed, int q) {
        return q == NONE || deed == 0 || (deed < 100 ? deed - 10 != q : (deed - 100) / 10 != q);
    }

    /** For each stand how many hours it can be kept up, MAX_VALUE for ever; q does nothing. */
    private Map<Stand, Integer> lengths(int q) {
        Map<Stand, Integer> length = new HashMap<>();
        Set<Stand> alive = new LinkedHashSet<>();
        for (Stand s : closure(stand)) {
            if (!s.down()) {
                alive.add(s);
            }
        }
        int n = 0;
        while (true) {
            Set<Stand> next = new LinkedHashSet<>();
            for (Stand s : alive) {
                boolean can = false;
                for (Map.Entry<Integer, Stand> e : hoursFrom(s).entrySet()) {
                    can |= without(e.getKey(), q) && alive.contains(e.getValue());
                }
                if (can) {
                    next.add(s);
                } else {
                    length.put(s, n);
                }
            }
            if (next.size() == alive.size()) {
                for (Stand s : alive) {
                    length.put(s, Integer.MAX_VALUE);
                }
                return length;
            }
            alive = next;
            n++;
        }
    }

    private int up() {
        refuseIf(stand.down(), -5);
        int n = lengths(NONE).get(stand);
        return n == Integer.MAX_VALUE ? NONE : n;
    }

    private int keeping(int i) {
        refuseIf(i < 0 || i > 99, -3);
        refuseIf(stand.down(), -5);
        Map<Stand, Integer> lengths = lengths(NONE);
        Stand s = stand;
        int deed = NONE;
        for (int j = 0; j <= i; j++) {
            int n = lengths.get(s);
            if (n == 0) {
                return NONE;
            }
            int want = n == Integer.MAX_VALUE ? n : n - 1;
            for (Map.Entry<Integer, Stand> e : hoursFrom(s).entrySet()) {
                if (!e.getValue().down() && lengths.get(e.getValue()) == want) {
                    deed = e.getKey();
                    s = e.getValue();
                    break;
                }
            }
        }
        return deed;
    }

    private long rows(int n) {
        refuseIf(n < 0 || n > 8, -3);
        refuseIf(stand.down(), -5);
        long[] any = new long[n];
        Arrays.fill(any, NONE);
        return seenRows(stand, any, 0, new HashMap<>());
    }

    private int needed(int n) {
        refuseIf(n < 1 || n > 20, -3);
        refuseIf(stand.down(), -5);
        int bits = 0;
        if (lengths(NONE).get(stand) >= n) {
            for (int q = 0; q < county.kin.size(); q++) {
                bits += lengths(q).get(stand) < n ? 1 << q : 0;
            }
        }
        return bits;
    }

    // ---- coming

    private void refuseAim(int k, int p) {
        refuseIf(!isPlace(k) || p != NONE && !isKin(p), -2);
    }

    /** The first of the shortest rows, by trying each length and asking at each hour what still can be; null. */
    private List<Integer> come(int k, int p) {
        List<Set<Stand>> ends = new ArrayList<>();
        Set<Stand> end = new LinkedHashSet<>();
        for (Stand s : closure(stand)) {
            if (!s.down() && s.where() == k && (p == NONE || s.bearer == p)) {
                end.add(s);
            }
        }
        ends.add(end);
        Set<Stand> ever = new LinkedHashSet<>(end);
        while (!ends.get(ends.size() - 1).contains(stand)) {
            Set<Stand> ahead = new LinkedHashSet<>();
            for (Stand s : closure(stand)) {
                for (Stand next : hoursFrom(s).values()) {
                    if (ends.get(ends.size() - 1).contains(next)) {
                        ahead.add(s);
                    }
                }
            }
            if (!ever.addAll(ahead)) {
                return null;
            }
            ends.add(ahead);
        }
        List<Integer> row = new ArrayList<>();
        Stand s = stand;
        for (int left = ends.size() - 2; left >= 0; left--) {
            for (Map.Entry<Integer, Stand> e : hoursFrom(s).entrySet()) {
                if (ends.get(left).contains(e.getValue())) {
                    row.add(e.getKey());
                    s = e.getValue();
                    break;
                }
            }
        }
        return row;
    }

    private int soonest(int k, int p) {
        refuseAim(k, p);
        List<Integer> row = come(k, p);
        return row == null ? NONE : row.size();
    }

    private int way(int k, int p, int i) {
        refuseAim(k, p);
        refuseIf(i < 0, -3);
        List<Integer> row = come(k, p);
        return row == null || i >= row.size() ? NONE : row.get(i);
    }

    private int reach(boolean who) {
        int bits = 0;
        for (Stand s : closure(stand)) {
            if (!s.down()) {
                bits |= 1 << (who ? s.bearer : s.where());
            }
        }
        return bits;
    }

    // ---- seen

    private long seenRows(Stand s, long[] told, int from, Map<List<Object>, Long> memo) {
        if (from == told.length) {
            return 1;
        }
        List<Object> key = List.of(s, from);
        Long was = memo.get(key);
        if (was != null) {
            return was;
        }
        long sum = 0;
        for (Stand next : hoursFrom(s).values()) {
            if (!next.down() && (told[from] == NONE || told[from] == next.where())) {
                sum += seenRows(next, told, from + 1, memo);
            }
        }
        memo.put(key, sum);
        return sum;
    }

    private long[] seenTray(int t, int i) {
        long[] told = tray(t);
        refuseIf(told.length < 1 || told.length > 8, -4);
        for (long k : told) {
            refuseIf(k != NONE && !isPlace(k), -3);
        }
        refuseIf(i < 0, -3);
        return told;
    }

    private long seen(int t) {
        long[] told = seenTray(t, 0);
        return stand.down() ? 0 : seenRows(stand, told, 0, new HashMap<>());
    }

    private int seenBy(int t, int i) {
        long[] told = seenTray(t, i);
        Map<List<Object>, Long> memo = new HashMap<>();
        if (i >= told.length || stand.down() || seenRows(stand, told, 0, memo) == 0) {
            return NONE;
        }
        Stand s = stand;
        int deed = NONE;
        for (int j = 0; j <= i; j++) {
            for (Map.Entry<Integer, Stand> e : hoursFrom(s).entrySet()) {
                Stand next = e.getValue();
                if (!next.down() && (told[j] == NONE || told[j] == next.where())
                    && seenRows(next, told, j + 1, memo) > 0) {
                    deed = e.getKey();
                    s = next;
                    break;
                }
            }
        }
        return deed;
    }

    private int suspects(int t, int i) {
        long[] told = seenTray(t, i);
        refuseIf(i >= told.length, -7);
        Map<List<Object>, Long> memo = new HashMap<>();
        Set<Stand> here = new LinkedHashSet<>(stand.down() ? List.of() : List.of(stand));
        for (int j = 0; j <= i; j++) {
            Set<Stand> there = new LinkedHashSet<>();
            for (Stand s : here) {
                for (Stand next : hoursFrom(s).values()) {
                    if (!next.down() && (told[j] == NONE || told[j] == next.where())
                        && seenRows(next, told, j + 1, memo) > 0) {
                        there.add(next);
                    }
                }
            }
            here = there;
        }
        int bits = 0;
        for (Stand s : here) {
            bits |= 1 << s.bearer;
        }
        return bits;
    }

    // ---- tired

    private List<Integer> tired(int t) {
        long[] told = tray(t);
        refuseIf(told.length < 1 || told.length > 8, -4);
        for (long v : told) {
            refuseIf(v < 0 || v > 3, -3);
        }
        refuseIf(county.kin.isEmpty(), -5);
        List<Integer> skies = new ArrayList<>();
        for (int w = 0; w < 10; w++) {
            Stand s = stand;
            boolean so = true;
            for (long v : told) {
                if (!s.down()) {
                    s = afterHour(s, w, 0);
                }
                so &= s.strengths.get(s.bearer) == v;
            }
            if (so) {
                skies.add(w);
            }
        }
        return skies;
    }

    private static int bits(List<Integer> of) {
        int bits = 0;
        for (int i : of) {
            bits |= 1 << i;
        }
        return bits;
    }

    private int attempt(int t) {
        List<Integer> skies = tired(t);
        int least = Integer.MAX_VALUE;
        int first = NONE;
        for (int d : allHours()) {
            Map<List<Integer>, Integer> groups = new HashMap<>();
            for (int w : skies) {
                Stand s = whyHour(stand, w, d) == 0 ? afterHour(stand, w, d) : stand;
                groups.merge(s.strengths, 1, Integer::sum);
            }
            int most = 0;
            for (int n : groups.values()) {
                most = Math.max(most, n);
            }
            if (!skies.isEmpty() && most < least) {
                least = most;
                first = d;
            }
        }
        return first;
    }

    // ---- the beast

    private List<Stand> beastOn(Stand s) {
        List<Stand> all = new ArrayList<>();
        all.add(s);
        for (int p = 0; p < county.kin.size(); p++) {
            all.add(s.wearied(p));
        }
        return all;
    }

    private boolean lastsBy(Stand behind, Set<Stand> alive) {
        if (behind.down()) {
            return false;
        }
        for (Stand s : beastOn(behind)) {
            if (s.down() || !alive.contains(s)) {
                return false;
            }
        }
        return true;
    }

    /** By how many hours the stands that last for them; the last ones last for ever. */
    private List<Set<Stand>> levels() {
        Set<Stand> all = new LinkedHashSet<>();
        List<Stand> todo = new ArrayList<>();
        all.add(stand);
        todo.add(stand);
        while (!todo.isEmpty()) {
            for (Stand next : hoursFrom(todo.remove(todo.size() - 1)).values()) {
                if (!next.down()) {
                    for (Stand s : beastOn(next)) {
                        if (!s.down() && all.add(s)) {
                            todo.add(s);
                        }
                    }
                }
            }
        }
        List<Set<Stand>> levels = new ArrayList<>();
        levels.add(all);
        while (true) {
            Set<Stand> before = levels.get(levels.size() - 1);
            Set<Stand> next = new LinkedHashSet<>();
            for (Stand s : before) {
                for (Stand behind : hoursFrom(s).values()) {
                    if (lastsBy(behind, before)) {
                        next.add(s);
                        break;
                    }
                }
            }
            if (next.size() == before.size()) {
                return levels;
            }
            levels.add(next);
        }
    }

    private int lasts() {
        refuseIf(stand.down(), -5);
        List<Set<Stand>> levels = levels();
        for (int n = 1; n < levels.size(); n++) {
            if (!levels.get(n).contains(stand)) {
                return n - 1;
            }
        }
        return NONE;
    }

    private int best() {
        refuseIf(stand.down(), -5);
        List<Set<Stand>> levels = levels();
        int n = lasts();
        if (n == 0) {
            return NONE;
        }
        Set<Stand> want = levels.get(n == NONE ? levels.size() - 1 : n - 1);
        for (Map.Entry<Integer, Stand> e : hoursFrom(stand).entrySet()) {
            if (lastsBy(e.getValue(), want)) {
                return e.getKey();
            }
        }
        return NONE;
    }

    // ---- chances

    private int chance(int t, int what, boolean mean) {
        refuseIf(t < 0 || t > 3 || what < 0 || what > 1, -2);
        long[] told = tray(t);
        refuseIf(told.length < 1 || told.length > 6, -4);
        for (long d : told) {
            refuseIf(!isHour(d), -3);
        }
        refuseIf(stand.down(), -5);
        Map<Stand, BigInteger> weights = new LinkedHashMap<>();
        weights.put(stand, BigInteger.ONE);
        for (long d : told) {
            Map<Stand, BigInteger> next = new LinkedHashMap<>();
            for (Map.Entry<Stand, BigInteger> e : weights.entrySet()) {
                for (int lot = 0; lot < 10; lot++) {
                    Stand s = e.getKey();
                    if (!s.down()) {
                        s = afterHour(s, weather, whyHour(s, weather, d) == 0 ? d : 0);
                        if (!s.down() && isKin(lot)) {
                            s = s.wearied(lot);
                        }
                    }
                    next.merge(s, e.getValue(), BigInteger::add);
                }
            }
            weights = next;
        }
        BigInteger above = BigInteger.ZERO;
        BigInteger below = BigInteger.ZERO;
        for (Map.Entry<Stand, BigInteger> e : weights.entrySet()) {
            int part = mean ? e.getKey().sum() : e.getKey().down() ? 0 : 1;
            above = above.add(e.getValue().multiply(BigInteger.valueOf(part)));
            below = below.add(e.getValue());
        }
        BigInteger common = above.gcd(below);
        return (what == 0 ? above : below).divide(common).intValueExact();
    }

    // ---- trays, images

    private int numbers(int t, int sort, int n) {
        refuseIf(t < 0 || t > 3 || sort < 0 || sort > 3, -2);
        refuseIf(n < 0 || n > 40, -3);
        trays[t] = new long[n];
        sorts[t] = sort;
        return 0;
    }

    private long put(int t, int i, long v) {
        int cut = 64 - (8 << sorts[t]);
        trays[t][i] = v << cut >> cut;
        return trays[t][i];
    }

    private long write(int t, int i, long v) {
        long[] there = tray(t);
        refuseIf(i < 0 || i >= there.length, -7);
        return put(t, i, v);
    }

    private int lists(int t, int k, int p) {
        refuseIf(t < 0 || t > 3, -2);
        refuseAim(k, p);
        long[] there = tray(t);
        List<Integer> row = come(k, p);
        refuseIf(row == null, -5);
        int i = 0;
        while (i < row.size() && i < there.length) {
            put(t, i, row.get(i));
            i++;
        }
        return i;
    }

    private int image(int i) {
        refuseIf(i < 0 || i > 1, -2);
        images[i] = moment();
        return 0;
    }

    private int restore(int i) {
        refuseIf(i < 0 || i > 1, -2);
        refuseIf(images[i] == null, -5);
        back(images[i]);
        past.clear();
        return 0;
    }

    private int count(int what) {
        if (what < 0 || what > 10) {
            return NONE;
        }
        return new int[] {county.places, county.kin.size(), county.kin.isEmpty() ? NONE : stand.bearer,
            stand.where(), stand.sum(), stand.down() ? 1 : 0, weather, hours, past.size(), tape.length(),
            county.lines}[what];
    }
}
