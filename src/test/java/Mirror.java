import java.util.ArrayList;
import java.util.Arrays;
import java.util.Collections;
import java.util.LinkedHashMap;
import java.util.List;
import java.util.Map;
import java.util.TreeMap;
import java.util.TreeSet;
import java.util.regex.Matcher;
import java.util.regex.Pattern;

/**
 * The document told once more, plainly and slowly, with the whole library: what GuiltyShave answers is held
 * against it. It shares no code with the program.
 */
final class Mirror {
    static final int NONE = -1;
    static final int HIDDEN = -1000000;

    static final class Man {
        int beard, shame = 3, wish, shaved;
        boolean went, smoothed;
        TreeMap<Integer, Integer> has = new TreeMap<>();

        Man copy() {
            Man m = new Man();
            m.beard = beard; m.shame = shame; m.wish = wish; m.shaved = shaved;
            m.went = went; m.smoothed = smoothed; m.has = new TreeMap<>(has);
            return m;
        }
    }

    static final class Deed {
        int heavy = 3, harm = 2, lasts = 5;
    }

    static final class State {
        List<Man> men = new ArrayList<>();
        int harm, nicks, pleased, coins, day;
        List<int[]> log = new ArrayList<>();

        State copy() {
            State s = new State();
            for (Man m : men) s.men.add(m.copy());
            s.harm = harm; s.nicks = nicks; s.pleased = pleased; s.coins = coins; s.day = day;
            s.log = new ArrayList<>(log);
            return s;
        }
    }

    StringBuilder tape = new StringBuilder();
    List<Deed> deeds = new ArrayList<>();
    int nick = 1;
    State now = new State();
    State image;
    List<State> past = new ArrayList<>();
    List<String> laws = new ArrayList<>();
    List<List<String>> weeks = new ArrayList<>();
    int holding = NONE;
    int rumour = 5;
    List<int[]> sights = new ArrayList<>();

    // ---- texts

    int feed(int... words) {
        StringBuilder more = new StringBuilder(tape);
        for (int w : words) {
            for (int k = 3; k >= 0; k--) {
                char c = (char) ((w >> (8 * k)) & 0xff);
                if (c != 0) more.append(c);
            }
        }
        if (more.length() > 240) return NONE;
        tape = more;
        return tape.length();
    }

    boolean end(int n) {
        if (n < 0 || n > tape.length()) return false;
        tape.setLength(n);
        return true;
    }

    int fault(int sort) {
        String t = tape.toString();
        return sort == 0 ? townFault(t) : sort == 1 ? Grammar.lawFault(t) : sort == 2 ? Grammar.weekFault(t) : -2;
    }

    static final Map<String, int[]> BOUNDS = new LinkedHashMap<>();
    static {
        BOUNDS.put("sn", new int[] {0, 9}); BOUNDS.put("sc", new int[] {0, 99});
        BOUNDS.put("pb", new int[] {0, 99}); BOUNDS.put("ps", new int[] {0, 9}); BOUNDS.put("pw", new int[] {0, 6});
        BOUNDS.put("dk", new int[] {1, 9}); BOUNDS.put("dh", new int[] {0, 9}); BOUNDS.put("dl", new int[] {1, 9});
    }

    /** Token by token, by a pattern: signs and runs of digits with where they stand. */
    static int townFault(String t) {
        List<String> words = new ArrayList<>();
        List<Integer> places = new ArrayList<>();
        Matcher m = Pattern.compile("[0-9]+|[^ ]", Pattern.DOTALL).matcher(t);
        while (m.find()) { words.add(m.group()); places.add(m.start()); }
        Map<String, Integer> clauses = new TreeMap<>();
        String clause = null;
        TreeSet<String> used = new TreeSet<>();
        for (int i = 0; i < words.size(); i++) {
            String w = words.get(i);
            int at = places.get(i);
            if (clause == null) {
                if (!w.equals("s") && !w.equals("p") && !w.equals("d")) return at;
                int n = clauses.merge(w, 1, Integer::sum);
                if (n > (w.equals("s") ? 1 : w.equals("p") ? 6 : 8)) return at;
                clause = w;
                used.clear();
            } else if (w.equals(";")) {
                clause = null;
            } else {
                int[] bounds = BOUNDS.get(clause + w);
                if (bounds == null || !used.add(w)) return at;
                i++;
                if (i == words.size()) return t.length();
                String n = words.get(i);
                int nat = places.get(i);
                if (!n.matches("[0-9]+")) return nat;
                if (n.length() > 2) return nat + 2;
                int v = Integer.parseInt(n);
                if (v < bounds[0] || v > bounds[1]) return nat + n.length() - 1;
            }
        }
        if (clause == null || !clauses.containsKey("p") || !clauses.containsKey("d")) return t.length();
        return NONE;
    }

    int text(int sort) {
        if (sort < 0 || sort > 2 || fault(sort) != NONE) return NONE;
        String t = tape.toString().replace(" ", "");
        if (sort == 1) {
            if (laws.size() == 4) return NONE;
            laws.add(t);
            tape.setLength(0);
            return laws.size() - 1;
        }
        if (sort == 2) {
            if (weeks.size() == 4) return NONE;
            weeks.add(Arrays.asList(t.split(";")));
            tape.setLength(0);
            return weeks.size() - 1;
        }
        now = new State();
        now.coins = 20;
        nick = 1;
        deeds = new ArrayList<>();
        past.clear();
        sights.clear();
        image = null;
        for (String c : t.split(";")) {
            Map<Character, Integer> items = new TreeMap<>();
            Matcher m = Pattern.compile("([a-z])([0-9]+)").matcher(c.substring(1));
            while (m.find()) items.put(m.group(1).charAt(0), Integer.parseInt(m.group(2)));
            if (c.charAt(0) == 's') {
                nick = items.getOrDefault('n', 1);
                now.coins = items.getOrDefault('c', 20);
            } else if (c.charAt(0) == 'p') {
                Man man = new Man();
                man.beard = items.getOrDefault('b', 0);
                man.shame = items.getOrDefault('s', 3);
                man.wish = items.getOrDefault('w', 0);
                now.men.add(man);
            } else {
                Deed d = new Deed();
                d.heavy = items.getOrDefault('k', 3);
                d.harm = items.getOrDefault('h', 2);
                d.lasts = items.getOrDefault('l', 5);
                deeds.add(d);
            }
        }
        tape.setLength(0);
        return now.men.size();
    }

    // ---- LAWS, by cutting the text at its weakest sign

    static long worth(String law, Map<Character, Integer> letters) {
        for (String clause : split(law, ";")) {
            String body = clause.substring(2);
            List<String> parts = split(body, "?");
            if (parts.size() == 1) return sum(parts.get(0), letters);
            if (holds(parts.get(0), letters)) return sum(parts.get(1), letters);
        }
        return 0;
    }

    static List<String> split(String t, String signs) {
        List<String> parts = new ArrayList<>();
        int deep = 0;
        int from = 0;
        for (int i = 0; i < t.length(); i++) {
            char c = t.charAt(i);
            if (c == '(' || c == '[') deep++;
            if (c == ')' || c == ']') deep--;
            if (deep == 0 && signs.indexOf(c) >= 0) {
                parts.add(t.substring(from, i));
                from = i + 1;
            }
        }
        parts.add(t.substring(from));
        return parts;
    }

    static boolean holds(String t, Map<Character, Integer> letters) {
        List<String> truths = split(t, "|");
        if (truths.size() > 1) return truths.stream().anyMatch(x -> holds(x, letters));
        List<String> units = split(t, "&");
        if (units.size() > 1) return units.stream().allMatch(x -> holds(x, letters));
        if (t.charAt(0) == '!') return !holds(t.substring(1), letters);
        if (t.charAt(0) == '(') return holds(t.substring(1, t.length() - 1), letters);
        List<String> sums = split(t, "=<>");
        long a = sum(sums.get(0), letters);
        long b = sum(sums.get(1), letters);
        char c = t.charAt(sums.get(0).length());
        return c == '=' ? a == b : c == '<' ? a < b : a > b;
    }

    static long sum(String t, Map<Character, Integer> letters) {
        for (String signs : new String[] {"+-", "*/"}) {
            int deep = 0;
            for (int i = t.length() - 1; i >= 0; i--) {
                char c = t.charAt(i);
                if (c == ']') deep++;
                if (c == '[') deep--;
                if (deep == 0 && signs.indexOf(c) >= 0) {
                    long a = sum(t.substring(0, i), letters);
                    long b = sum(t.substring(i + 1), letters);
                    long v = c == '+' ? a + b : c == '-' ? a - b : c == '*' ? a * b : b == 0 ? 0 : a / b;
                    return Math.max(-1000000, Math.min(1000000, v));
                }
            }
        }
        if (t.charAt(0) == '[') return sum(t.substring(1, t.length() - 1), letters);
        if (Character.isDigit(t.charAt(0))) return Long.parseLong(t);
        return letters.get(t.charAt(0));
    }

    int read(int shame, int g, int n, int b, int w, int t) {
        if (holding == NONE) return g - shame;
        Map<Character, Integer> letters = Map.of('g', g, 's', shame, 'b', b, 'n', n, 'w', w, 't', t);
        return (int) Math.max(-99, Math.min(99, worth(laws.get(holding), letters)));
    }

    int guilt(Iterable<Integer> which) {
        int g = 0;
        for (int d : which) g += deeds.get(d).heavy;
        return g;
    }

    int readNow(State s, Man m) {
        return read(m.shame, guilt(m.has.keySet()), m.has.size(), m.beard, s.day % 7, m.shaved);
    }

    boolean guilty(State s, Man m) {
        return readNow(s, m) > 0;
    }

    // ---- what is there

    boolean town() { return !now.men.isEmpty(); }
    boolean isMan(int p) { return p >= 0 && p < now.men.size(); }
    boolean isDeed(int d) { return d >= 0 && d < deeds.size(); }
    Man man(int p) { return now.men.get(p); }

    /** HIDDEN - 1 stands for the exception. */
    int person(int p, int what) {
        if (!isMan(p) || what < 0 || what > 4) return HIDDEN - 1;
        Man m = man(p);
        return new int[] {m.beard, m.shame, m.wish, m.shaved, m.went ? 1 : 0}[what];
    }

    int deed(int d, int what) {
        if (!isDeed(d) || what < 0 || what > 2) return NONE;
        Deed x = deeds.get(d);
        return new int[] {x.heavy, x.harm, x.lasts}[what];
    }

    int left(int p, int d) {
        return isMan(p) && isDeed(d) ? man(p).has.getOrDefault(d, 0) : NONE;
    }

    boolean law(int l) {
        if (l < -1 || l >= laws.size()) return false;
        holding = l;
        return true;
    }

    boolean rumour(int v) {
        if (v < 0 || v > 9 || v == rumour) return false;
        rumour = v;
        return true;
    }

    // ---- ACTS, each on a copy that takes the place of what was

    void act(State next) {
        past.add(now);
        if (past.size() > 40) past.remove(0);
        now = next;
    }

    boolean doDeed(State s, int p, int d) {
        if (p < 0 || p >= s.men.size() || !isDeed(d) || s.men.get(p).has.containsKey(d)) return false;
        s.men.get(p).has.put(d, deeds.get(d).lasts);
        s.harm = Math.min(9999, s.harm + deeds.get(d).harm);
        return true;
    }

    boolean doAtone(State s, int p, int d) {
        if (p < 0 || p >= s.men.size() || !s.men.get(p).has.containsKey(d) || s.coins < 2) return false;
        s.men.get(p).has.remove(d);
        s.coins -= 2;
        return true;
    }

    boolean doShave(State s, int p) {
        if (p < 0 || p >= s.men.size() || s.men.get(p).went) return false;
        Man m = s.men.get(p);
        if (guilty(s, m)) {
            m.beard = 0;
            m.shaved = Math.min(999, m.shaved + 1);
            m.smoothed = true;
        } else {
            s.nicks = Math.min(999, s.nicks + 1);
            s.coins = Math.max(0, s.coins - nick);
        }
        m.went = true;
        return true;
    }

    static int smooth(State s) {
        int bits = 0;
        for (int p = 0; p < s.men.size(); p++) if (s.men.get(p).beard == 0) bits += 1 << p;
        return bits;
    }

    boolean doDay(State s, boolean bounded) {
        if (s.men.isEmpty() || bounded && s.day >= 999) return false;
        int shaved = 0;
        for (int p = 0; p < s.men.size(); p++) if (s.men.get(p).smoothed) shaved += 1 << p;
        s.log.add(0, new int[] {smooth(s), shaved, s.harm});
        if (s.log.size() > 60) s.log.remove(60);
        for (Man m : s.men) {
            if (m.beard == 0 && m.wish == s.day % 7) s.pleased = Math.min(9999, s.pleased + 1);
            m.beard = Math.min(99, m.beard + 1);
            m.has.replaceAll((d, days) -> days - 1);
            m.has.values().removeIf(days -> days == 0);
            m.went = false;
            m.smoothed = false;
        }
        s.day++;
        return true;
    }

    int commit(int p, int d) {
        State s = now.copy();
        if (!doDeed(s, p, d)) return NONE;
        act(s);
        return guilt(man(p).has.keySet());
    }

    int sell(int p, int o, int d) {
        if (!isMan(p) || !isMan(o) || p == o || !man(p).has.containsKey(d) || man(o).has.containsKey(d)
                || now.coins < 1) return NONE;
        State s = now.copy();
        int days = s.men.get(p).has.remove(d);
        s.men.get(o).has.put(d, days);
        s.coins--;
        act(s);
        return days;
    }

    int atone(int p, int d) {
        State s = now.copy();
        if (!doAtone(s, p, d)) return NONE;
        act(s);
        return guilt(man(p).has.keySet());
    }

    int shave(int p) {
        State s = now.copy();
        if (!doShave(s, p)) return NONE;
        act(s);
        return man(p).smoothed ? 1 : 0;
    }

    int give(int n) {
        if (!town() || n < 1 || n > 50 || now.coins + n > 999) return NONE;
        State s = now.copy();
        s.coins += n;
        act(s);
        return now.coins;
    }

    int day() {
        int bits = smooth(now);
        State s = now.copy();
        if (!doDay(s, true)) return NONE;
        act(s);
        return Integer.bitCount(bits);
    }

    long x;

    int draw(int j) {
        x = x * 6364136223846793005L + 1442695040888963407L;
        return (int) Long.remainderUnsigned(x >>> 33, j);
    }

    int years(int n, long seed) {
        if (!town() || n < 1 || n > 30 || now.day + n > 999) return NONE;
        x = seed;
        for (int i = 0; i < n; i++) {
            State s = now.copy();
            int p = draw(s.men.size());
            int d = draw(deeds.size());
            doDeed(s, p, d);
            if (draw(10) < rumour) doShave(s, draw(s.men.size()));
            doDay(s, true);
            act(s);
        }
        return now.day;
    }

    int undo() {
        if (past.isEmpty()) return NONE;
        now = past.remove(past.size() - 1);
        return past.size();
    }

    int log(int i, int what) {
        return i < 0 || i >= now.log.size() || what < 0 || what > 2 ? NONE : now.log.get(i)[what];
    }

    boolean isWeek(int w) { return w >= 0 && w < weeks.size(); }

    int step(int w, int i, int what) {
        if (!isWeek(w) || i < 0 || i >= weeks.get(w).size() || what < 0 || what > 2) return HIDDEN;
        String s = weeks.get(w).get(i);
        if (what == 0) return "dsan".indexOf(s.charAt(0));
        return what < s.length() ? s.charAt(what) - '0' : NONE;
    }

    boolean take(State s, String step) {
        int a = step.length() > 1 ? step.charAt(1) - '0' : NONE;
        int b = step.length() > 2 ? step.charAt(2) - '0' : NONE;
        switch (step.charAt(0)) {
            case 'd': return doDeed(s, a, b);
            case 's': return doShave(s, a);
            case 'a': return doAtone(s, a, b);
            default: return doDay(s, true);
        }
    }

    int run(int w, int what) {
        if (!isWeek(w) || !town() || what < 0 || what > 1) return HIDDEN;
        State s = now.copy();
        int stopped = NONE;
        for (int i = 0; i < weeks.get(w).size() && stopped == NONE; i++) {
            if (!take(s, weeks.get(w).get(i))) stopped = i;
        }
        return what == 0 ? stopped : s.harm - now.harm;
    }

    int perform(int w) {
        if (!isWeek(w) || !town()) return NONE;
        int done = 0;
        for (String step : weeks.get(w)) {
            State s = now.copy();
            if (!take(s, step)) break;
            act(s);
            done++;
        }
        return done;
    }

    // ---- questions

    int skin(int p, int what) {
        if (!isMan(p) || what < 0 || what > 2) return HIDDEN;
        return what == 0 ? guilt(man(p).has.keySet()) : what == 1 ? readNow(now, man(p)) : guilty(now, man(p)) ? 1 : 0;
    }

    static List<Integer> members(int bits) {
        List<Integer> list = new ArrayList<>();
        for (int i = 0; i < 31; i++) if ((bits & 1 << i) != 0) list.add(i);
        return list;
    }

    /** GUILTY with these DEEDS more. */
    boolean guiltyWith(Man m, int bits) {
        Man c = m.copy();
        for (int d : members(bits)) c.has.put(d, 1);
        return guilty(now, c);
    }

    int least(int p, int what) {
        if (!isMan(p) || what < 0 || what > 1) return NONE;
        if (guilty(now, man(p))) return 0;
        List<int[]> found = new ArrayList<>();
        for (int bits = 0; bits < 1 << deeds.size(); bits++) {
            int harm = 0;
            boolean fresh = true;
            for (int d : members(bits)) {
                harm += deeds.get(d).harm;
                fresh &= !man(p).has.containsKey(d);
            }
            if (fresh && guiltyWith(man(p), bits)) found.add(new int[] {harm, Integer.bitCount(bits), bits});
        }
        return found.isEmpty() ? NONE : first(found)[what == 0 ? 2 : 0];
    }

    static int[] first(List<int[]> found) {
        return Collections.min(found, (a, b) -> Arrays.compare(a, b));
    }

    int cover(int people, int what) {
        if (what < 0 || what > 1 || people < 1 || people >= 1 << now.men.size()) return NONE;
        List<int[]> found = new ArrayList<>();
        for (int bits = 0; bits < 1 << deeds.size(); bits++) {
            int harm = 0;
            boolean ok = true;
            for (int p : members(people)) {
                for (int d : members(bits)) if (!man(p).has.containsKey(d)) harm += deeds.get(d).harm;
                ok &= guiltyWith(man(p), bits);
            }
            if (ok) found.add(new int[] {harm, Integer.bitCount(bits), bits});
        }
        return found.isEmpty() ? NONE : first(found)[what == 0 ? 2 : 0];
    }

    int soon(int p) {
        if (!isMan(p)) return NONE;
        State s = now.copy();
        for (int k = 0; k <= 60; k++) {
            if (!guilty(s, s.men.get(p))) return k;
            doDay(s, false);
        }
        return NONE;
    }

    int clean() {
        if (!town()) return NONE;
        State s = now.copy();
        int k = 0;
        while (s.men.stream().anyMatch(m -> !m.has.isEmpty())) {
            doDay(s, false);
            k++;
        }
        return k;
    }

    int bargain(int p, int o) {
        if (!isMan(p) || !isMan(o) || p == o) return NONE;
        for (int d = 0; d < deeds.size(); d++) {
            if (!man(p).has.containsKey(d) || man(o).has.containsKey(d)) continue;
            Man a = man(p).copy();
            Man b = man(o).copy();
            b.has.put(d, a.has.remove(d));
            if (guilty(now, a) && guilty(now, b)) return d;
        }
        return NONE;
    }

    int seen(int p, int beard, boolean g) {
        if (!isMan(p) || beard < 0 || beard > 99 || sights.size() == 10) return NONE;
        sights.add(new int[] {p, beard, g ? 1 : 0});
        return sights.size();
    }

    boolean wouldBe(int p, int bits, int beard) {
        return read(man(p).shame, guilt(members(bits)), Integer.bitCount(bits), beard, 0, 0) > 0;
    }

    List<Integer> fitting(int p) {
        List<Integer> list = new ArrayList<>();
        for (int bits = 0; bits < 1 << deeds.size(); bits++) {
            boolean ok = true;
            for (int[] s : sights) ok &= s[0] != p || wouldBe(p, bits, s[1]) == (s[2] == 1);
            if (ok) list.add(bits);
        }
        return list;
    }

    int sets(int p, int i) {
        if (!isMan(p)) return NONE;
        return nth(fitting(p), i);
    }

    static int nth(List<Integer> list, int i) {
        return i == NONE ? list.size() : i < 0 || i >= list.size() ? NONE : list.get(i);
    }

    int ask(int p) {
        if (!isMan(p)) return NONE;
        List<Integer> list = fitting(p);
        if (list.isEmpty()) return NONE;
        List<int[]> found = new ArrayList<>();
        for (int b = 0; b <= 99; b++) {
            int yes = 0;
            int no = 0;
            for (int bits : list) if (wouldBe(p, bits, b)) yes++; else no++;
            found.add(new int[] {Math.abs(yes - no), b});
        }
        return first(found)[1];
    }

    int game(int p, int x, int y, int what) {
        if (!isMan(p) || x < 0 || x > 3 || y < 0 || y > 2 || what < 0 || what > 1) return HIDDEN;
        boolean so = gameGuilty(p, x, y);
        if (what == 0) return (so ? 6 : 0) - x;
        return (so == gameGuilty(p, 0, 0) ? 5 : 0) - y;
    }

    boolean gameGuilty(int p, int x, int y) {
        Man m = man(p);
        int g = Math.max(0, guilt(m.has.keySet()) + 2 * x - 3 * y);
        return read(m.shame, g, m.has.size(), m.beard, now.day % 7, m.shaved) > 0;
    }

    int rests(int p, int i) {
        if (!isMan(p)) return NONE;
        List<Integer> list = new ArrayList<>();
        for (int x = 0; x <= 3; x++) {
            for (int y = 0; y <= 2; y++) {
                boolean ok = true;
                for (int o = 0; o <= 3; o++) ok &= game(p, o, y, 0) <= game(p, x, y, 0);
                for (int o = 0; o <= 2; o++) ok &= game(p, x, o, 1) <= game(p, x, y, 1);
                if (ok) list.add(10 * x + y);
            }
        }
        return nth(list, i);
    }

    int odds(int p, int chance) {
        if (!isMan(p) || chance < 0 || chance > 100) return NONE;
        return (int) oddsFrom(p, new ArrayList<>(man(p).has.keySet()), chance, 1000000000L, new ArrayList<>());
    }

    long oddsFrom(int p, List<Integer> open, int chance, long part, List<Integer> noticed) {
        Man m = man(p);
        if (open.isEmpty()) {
            return read(m.shame, guilt(noticed), noticed.size(), m.beard, now.day % 7, m.shaved) > 0 ? part : 0;
        }
        List<Integer> rest = open.subList(1, open.size());
        List<Integer> more = new ArrayList<>(noticed);
        more.add(open.get(0));
        long lost = part * chance / 100;
        return oddsFrom(p, rest, chance, lost, noticed) + oddsFrom(p, rest, chance, part - lost, more);
    }

    int shares(int p, int c) {
        if (!isMan(p) || c < 0 || c > 999) return NONE;
        int all = 0;
        for (Man m : now.men) all += guilt(m.has.keySet());
        return all == 0 ? 0 : c * guilt(man(p).has.keySet()) / all;
    }

    int owners(int d) {
        if (!isDeed(d)) return NONE;
        int bits = 0;
        for (int p = 0; p < now.men.size(); p++) if (man(p).has.containsKey(d)) bits += 1 << p;
        return bits;
    }

    int wish(int p) {
        if (!isMan(p)) return NONE;
        int k = 0;
        while ((now.day + k) % 7 != man(p).wish) k++;
        return k;
    }

    int all(int what) {
        if (!town() || what < 0 || what > 9) return NONE;
        List<int[]> rank = new ArrayList<>();
        int bits = 0;
        int served = 0;
        for (int p = 0; p < now.men.size(); p++) {
            Man m = man(p);
            if (what < 4) rank.add(new int[] {new int[] {-m.beard, -guilt(m.has.keySet()), m.shame, -m.shaved}[what], p});
            if (what == 6 && guilty(now, m) || what == 7 && m.beard == 0 || what == 8 && m.has.isEmpty()) bits += 1 << p;
            State s = now.copy();
            for (int k = wish(p); k > 0; k--) doDay(s, false);
            if (guilty(s, s.men.get(p))) served++;
        }
        if (what == 4 || what == 5) {
            for (int d = 0; d < deeds.size(); d++) {
                rank.add(new int[] {what == 4 ? -deeds.get(d).heavy : deeds.get(d).harm, d});
            }
        }
        return what < 6 ? first(rank)[1] : what == 9 ? served : bits;
    }

    int image() {
        if (!town()) return NONE;
        image = now.copy();
        return now.day;
    }

    int back() {
        if (image == null) return NONE;
        now = image.copy();
        past.clear();
        return now.day;
    }

    int count(int what) {
        int[] all = {now.men.size(), deeds.size(), laws.size(), weeks.size(), tape.length(), holding, now.day, now.coins,
            now.harm, now.nicks, now.pleased, rumour, sights.size(), now.log.size(), past.size()};
        return what < 0 || what >= all.length ? HIDDEN : all[what];
    }
}
