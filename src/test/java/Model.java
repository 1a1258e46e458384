import java.util.ArrayDeque;
import java.util.ArrayList;
import java.util.Arrays;
import java.util.HashMap;
import java.util.HashSet;
import java.util.List;
import java.util.Map;
import java.util.Set;

/** The document told a second time, as plainly as the whole library lets one, for comparing; speed is no matter. */
public final class Model {
    static final class Fault extends RuntimeException {
        private static final long serialVersionUID = 1L;
        final int number;
        final int place;

        Fault(int number, int place) {
            this.number = number;
            this.place = place;
        }
    }

    interface Test {
        int value(int who, int spot, int keys, int closed);
    }

    static final class Door {
        int a;
        int b;
        int minutes;
        boolean box;
        boolean lost;
        List<Test> bars = new ArrayList<>();
    }

    static final class State {
        List<Integer> spots = new ArrayList<>();
        List<Integer> where = new ArrayList<>();
        List<List<Integer>> rows = new ArrayList<>();

        State copy() {
            State s = new State();
            s.spots.addAll(spots);
            s.where.addAll(where);
            for (List<Integer> row : rows) {
                s.rows.add(new ArrayList<>(row));
            }
            return s;
        }

        String told() {
            return spots + "" + where + rows;
        }
    }

    static final class Town {
        List<List<String>> names = new ArrayList<>();
        List<Door> doors = new ArrayList<>();
        List<Integer> things = new ArrayList<>();
        List<List<Integer>> wants = new ArrayList<>();
        List<int[]> musts = new ArrayList<>();
        int bars;
        int wantCount;
        State state = new State();

        Town() {
            for (int i = 0; i < 5; i++) {
                names.add(new ArrayList<>());
            }
        }

        boolean shut(State s, int d) {
            if (doors.get(d).lost) {
                return true;
            }
            for (List<Integer> row : s.rows) {
                if (row.contains(d)) {
                    return true;
                }
            }
            return false;
        }

        int closed(State s) {
            int n = 0;
            for (int d = 0; d < doors.size(); d++) {
                n += shut(s, d) ? 1 : 0;
            }
            return n;
        }

        boolean dead(State s, int d) {
            boolean dead = doors.get(d).lost;
            for (int k = 0; k < s.rows.size(); k++) {
                dead |= s.where.get(k) == 40 && s.rows.get(k).contains(d);
            }
            return dead;
        }

        int keys(State s, int p) {
            int n = 0;
            for (int w : s.where) {
                n += w == p ? 1 : 0;
            }
            return n;
        }

        boolean at(State s, int p, int d) {
            int spot = s.spots.get(p);
            return doors.get(d).a == spot || doors.get(d).b == spot;
        }

        boolean isP(State s, int p) {
            return p >= 0 && p < s.spots.size();
        }

        boolean isD(int d) {
            return d >= 0 && d < doors.size();
        }

        boolean isK(State s, int k) {
            return k >= 0 && k < s.where.size();
        }

        int go(State s, int p, int d) {
            if (!isP(s, p) || !isD(d) || doors.get(d).box || !at(s, p, d) || shut(s, d)) {
                return -1;
            }
            for (Test t : doors.get(d).bars) {
                if (t.value(p, s.spots.get(p), keys(s, p), closed(s)) != 0) {
                    return -1;
                }
            }
            int to = doors.get(d).a + doors.get(d).b - s.spots.get(p);
            s.spots.set(p, to);
            return to;
        }

        int open(State s, int p, int k) {
            if (!isP(s, p) || !isK(s, k) || s.where.get(k) != p || s.rows.get(k).isEmpty()) {
                return -1;
            }
            List<Integer> row = s.rows.get(k);
            int top = row.get(row.size() - 1);
            if (!at(s, p, top)) {
                return -1;
            }
            row.remove(row.size() - 1);
            return top;
        }

        int shutAct(State s, int p, int k, int d) {
            if (!isP(s, p) || !isK(s, k) || !isD(d) || s.where.get(k) != p || !at(s, p, d)) {
                return -1;
            }
            if (s.rows.get(k).contains(d) || s.rows.get(k).size() >= 6) {
                return -1;
            }
            s.rows.get(k).add(d);
            return s.rows.get(k).size();
        }
    }

    /** Reads a text; tokens are cut one by one, each judged ahead of the next. */
    static final class Parser {
        static final Set<String> OWN = new HashSet<>(Arrays.asList("place", "door", "box", "at", "key", "in", "person",
                "has", "shut", "by", "lost", "thing", "wants", "must", "bar", "when", "or", "and", "not", "all", "who",
                "spot", "keys", "closed", "min", "max"));
        final String text;
        final Town t = new Town();
        int at;
        int start;
        int depth;

        Parser(String text) {
            this.text = text;
        }

        static boolean letter(char c) {
            return c >= 'a' && c <= 'z';
        }

        static boolean digit(char c) {
            return c >= '0' && c <= '9';
        }

        /** The next token, at staying; "" at the end. */
        String peek() {
            int i = at;
            while (i < text.length() && (text.charAt(i) == ' ' || text.charAt(i) == '\n')) {
                i++;
            }
            start = i;
            if (i == text.length()) {
                return "";
            }
            char c = text.charAt(i);
            if (!letter(c) && !digit(c)) {
                return "" + c;
            }
            int j = i;
            while (j < text.length() && (letter(c) ? letter(text.charAt(j)) : digit(text.charAt(j)))) {
                j++;
            }
            int most = letter(c) ? 6 : 4;
            if (j - i > most) {
                throw new Fault(1, i + most);
            }
            if (i > 0 && (letter(text.charAt(i - 1)) || digit(text.charAt(i - 1)))) {
                throw new Fault(1, i);
            }
            return text.substring(i, j);
        }

        String next() {
            String s = peek();
            at = start + s.length();
            return s;
        }

        boolean passes(String s) {
            if (peek().equals(s)) {
                next();
                return true;
            }
            return false;
        }

        void must(String s) {
            if (!next().equals(s)) {
                throw new Fault(1, start);
            }
        }

        String name() {
            String s = next();
            if (s.isEmpty() || !letter(s.charAt(0)) || OWN.contains(s)) {
                throw new Fault(1, start);
            }
            return s;
        }

        String fresh() {
            String s = name();
            for (List<String> l : t.names) {
                if (l.contains(s)) {
                    throw new Fault(2, start);
                }
            }
            return s;
        }

        void check(boolean good, int fault) {
            if (!good) {
                throw new Fault(fault, start);
            }
        }

        int known(int kind) {
            int i = t.names.get(kind).indexOf(name());
            check(i >= 0, 3);
            return i;
        }

        int spot() {
            String s = name();
            int place = t.names.get(0).indexOf(s);
            if (place >= 0) {
                return 10 + place;
            }
            int box = t.names.get(1).indexOf(s);
            check(box >= 0 && t.doors.get(box).box, 3);
            return 20 + box;
        }

        int number(int lo, int hi) {
            String s = next();
            check(!s.isEmpty() && digit(s.charAt(0)), 1);
            int n = Integer.parseInt(s);
            check(n >= lo && n <= hi, 4);
            return n;
        }

        int all() {
            int n = 0;
            while (!peek().isEmpty()) {
                statement(next());
                must(";");
                n++;
            }
            return n;
        }

        void room(int have, int limit) {
            check(have < limit, 5);
        }

        void statement(String word) {
            State s = t.state;
            String n;
            switch (word) {
                case "place":
                    room(t.names.get(0).size(), 8);
                    t.names.get(0).add(fresh());
                    break;
                case "door":
                case "box":
                    room(t.doors.size(), 10);
                    door(word.equals("box"));
                    break;
                case "key":
                    room(t.names.get(2).size(), 4);
                    n = fresh();
                    must("in");
                    s.where.add(spot());
                    s.rows.add(new ArrayList<>());
                    t.names.get(2).add(n);
                    break;
                case "person":
                    room(t.names.get(3).size(), 3);
                    n = fresh();
                    must("at");
                    s.spots.add(known(0));
                    t.wants.add(new ArrayList<>());
                    t.names.get(3).add(n);
                    break;
                case "thing":
                    room(t.names.get(4).size(), 4);
                    n = fresh();
                    must("in");
                    t.things.add(spot());
                    t.names.get(4).add(n);
                    break;
                default:
                    told(word);
            }
        }

        void door(boolean box) {
            Door d = new Door();
            String n = fresh();
            d.box = box;
            if (box) {
                must("at");
                d.a = known(0);
                d.b = d.a;
            } else {
                d.a = known(0);
                d.b = known(0);
                check(d.a != d.b, 3);
                d.minutes = number(1, 99);
            }
            t.names.get(1).add(n);
            t.doors.add(d);
        }

        void told(String word) {
            State s = t.state;
            switch (word) {
                case "has": {
                    int p = known(3);
                    int k = known(2);
                    check(s.where.get(k) >= 10, 3);
                    s.where.set(k, p);
                    break;
                }
                case "shut": {
                    int d = known(1);
                    must("by");
                    int k = known(2);
                    check(!s.rows.get(k).contains(d) && s.rows.get(k).size() < 6, 3);
                    s.rows.get(k).add(d);
                    break;
                }
                case "lost": {
                    Door d = t.doors.get(known(1));
                    check(!d.lost, 3);
                    d.lost = true;
                    break;
                }
                case "wants": {
                    room(t.wantCount, 6);
                    List<Integer> wants = t.wants.get(known(3));
                    check(wants.size() < 2, 3);
                    int thing = known(4);
                    check(!wants.contains(thing), 3);
                    wants.add(thing);
                    t.wantCount++;
                    break;
                }
                case "must": {
                    room(t.musts.size(), 6);
                    int d = known(1);
                    int a = number(0, 1439);
                    t.musts.add(new int[] {d, a, number(a, 1439)});
                    break;
                }
                case "bar": {
                    room(t.bars, 6);
                    Door d = t.doors.get(known(1));
                    check(!d.box, 3);
                    must("when");
                    depth = 0;
                    d.bars.add(test());
                    t.bars++;
                    break;
                }
                default:
                    throw new Fault(1, start);
            }
        }

        Test test() {
            Test left = both();
            while (passes("or")) {
                Test a = left;
                Test b = both();
                left = (w, s, k, c) -> a.value(w, s, k, c) != 0 || b.value(w, s, k, c) != 0 ? 1 : 0;
            }
            return left;
        }

        Test both() {
            Test left = fact();
            while (passes("and")) {
                Test a = left;
                Test b = fact();
                left = (w, s, k, c) -> a.value(w, s, k, c) != 0 && b.value(w, s, k, c) != 0 ? 1 : 0;
            }
            return left;
        }

        void enter() {
            check(depth < 8, 5);
            depth++;
        }

        void leave(String bracket) {
            must(bracket);
            depth--;
        }

        Test fact() {
            if (passes("not")) {
                Test a = fact();
                return (w, s, k, c) -> a.value(w, s, k, c) != 0 ? 0 : 1;
            }
            if (passes("all")) {
                return (w, s, k, c) -> 1;
            }
            if (passes("[")) {
                enter();
                Test a = test();
                leave("]");
                return a;
            }
            Test a = sum();
            String sign = next();
            check(sign.equals("<") || sign.equals(">") || sign.equals("="), 1);
            Test b = sum();
            return (w, s, k, c) -> {
                int x = a.value(w, s, k, c);
                int y = b.value(w, s, k, c);
                return sign.equals("<") ? x < y ? 1 : 0 : sign.equals(">") ? x > y ? 1 : 0 : x == y ? 1 : 0;
            };
        }

        static int bound(long n) {
            return (int) Math.max(-1000000, Math.min(1000000, n));
        }

        Test sum() {
            Test left = product();
            while (peek().equals("+") || peek().equals("-")) {
                boolean plus = next().equals("+");
                Test a = left;
                Test b = product();
                left = (w, s, k, c) -> {
                    long x = a.value(w, s, k, c);
                    long y = b.value(w, s, k, c);
                    return bound(plus ? x + y : x - y);
                };
            }
            return left;
        }

        static int calc(char sign, int x, int y) {
            if (sign == '*') {
                return bound((long) x * y);
            }
            if (y == 0) {
                return 0;
            }
            int q = (int) Math.floor((double) x / y);
            return sign == '/' ? q : x - q * y;
        }

        Test product() {
            Test left = part();
            while (peek().equals("*") || peek().equals("/") || peek().equals("%")) {
                char sign = next().charAt(0);
                Test a = left;
                Test b = part();
                left = (w, s, k, c) -> calc(sign, a.value(w, s, k, c), b.value(w, s, k, c));
            }
            return left;
        }

        Test part() {
            String x = next();
            if (!x.isEmpty() && digit(x.charAt(0))) {
                int n = Integer.parseInt(x);
                return (w, s, k, c) -> n;
            }
            switch (x) {
                case "who":
                    return (w, s, k, c) -> w;
                case "spot":
                    return (w, s, k, c) -> s;
                case "keys":
                    return (w, s, k, c) -> k;
                case "closed":
                    return (w, s, k, c) -> c;
                case "(": {
                    enter();
                    Test a = sum();
                    leave(")");
                    return a;
                }
                case "min":
                case "max": {
                    must("(");
                    enter();
                    Test a = sum();
                    must(",");
                    Test b = sum();
                    leave(")");
                    return x.equals("min") ? (w, s, k, c) -> Math.min(a.value(w, s, k, c), b.value(w, s, k, c))
                            : (w, s, k, c) -> Math.max(a.value(w, s, k, c), b.value(w, s, k, c));
                }
                default:
                    throw new Fault(1, start);
            }
        }
    }

    private final StringBuilder tape = new StringBuilder();
    private Town t = new Town();
    private int fault;
    private int faultPlace = -1;
    private final int[] refusals = new int[6];
    private final List<int[]> trials = new ArrayList<>();
    private List<Integer> latest = new ArrayList<>();

    private int no(int what) {
        refusals[what]++;
        return -1;
    }

    private boolean said(boolean done, int what) {
        if (!done) {
            no(what);
        }
        return done;
    }

    private boolean isP(int p) {
        return t.isP(t.state, p);
    }

    private boolean isD(int d) {
        return t.isD(d);
    }

    private boolean isK(int k) {
        return t.isK(t.state, k);
    }

    private boolean isPlace(int p) {
        return p >= 0 && p < t.names.get(0).size();
    }

    public int feed(int a, int b, int c, int d, int e) {
        if (tape.length() + 20 > 1600) {
            return no(0);
        }
        for (int n : new int[] {a, b, c, d, e}) {
            tape.append((char) (n >>> 24)).append((char) (n >>> 16 & 255)).append((char) (n >>> 8 & 255));
            tape.append((char) (n & 255));
        }
        return tape.length();
    }

    public boolean end(int n) {
        if (n < 0 || n > tape.length()) {
            return said(false, 0);
        }
        tape.setLength(n);
        return true;
    }

    private String torn() {
        String s = tape.toString();
        tape.setLength(0);
        return s;
    }

    public int town() {
        Parser p = new Parser(torn());
        try {
            int n = p.all();
            t = p.t;
            fault = 0;
            faultPlace = -1;
            trials.clear();
            return n;
        } catch (Fault f) {
            fault = f.number;
            faultPlace = f.place;
            return no(1);
        }
    }

    public int fault(int what) {
        return what == 0 ? fault : what == 1 ? faultPlace : -1;
    }

    public int has(int what) {
        switch (what) {
            case 0:
            case 1:
            case 2:
            case 3:
            case 4:
                return t.names.get(what).size();
            case 5:
                return t.wantCount;
            case 6:
                return t.musts.size();
            case 7:
                return t.bars;
            case 8:
                return t.closed(t.state);
            case 9: {
                int n = 0;
                for (int d = 0; d < t.doors.size(); d++) {
                    n += t.dead(t.state, d) ? 1 : 0;
                }
                return n;
            }
            default:
                return -1;
        }
    }

    public int letter(int kind, int which, int k) {
        if (kind < 0 || kind > 4 || which < 0 || which >= t.names.get(kind).size()) {
            return -1;
        }
        String n = t.names.get(kind).get(which);
        return k < 0 || k >= n.length() ? -1 : n.charAt(k);
    }

    public int door(int d, int what) {
        if (!isD(d)) {
            return -1;
        }
        Door door = t.doors.get(d);
        int in = 0;
        for (List<Integer> row : t.state.rows) {
            in += row.contains(d) ? 1 : 0;
        }
        int[] all = {door.a, door.b, door.box ? 1 : 0, door.minutes, t.shut(t.state, d) ? 1 : 0, in, door.lost ? 1 : 0,
            t.dead(t.state, d) ? 1 : 0};
        return what < 0 || what > 7 ? -1 : all[what];
    }

    public int key(int k, int what) {
        if (!isK(k)) {
            return -1;
        }
        List<Integer> row = t.state.rows.get(k);
        return what == 0 ? t.state.where.get(k) : what == 1 ? row.size()
                : what == 2 && !row.isEmpty() ? row.get(row.size() - 1) : -1;
    }

    public int in(int k, int i) {
        return isK(k) && i >= 0 && i < t.state.rows.get(k).size() ? t.state.rows.get(k).get(i) : -1;
    }

    /** All states with the acts that it takes to come there, the person having one key more (NONE: none). */
    private Map<String, Integer> walk(int p, int more, List<State> states) {
        State s = t.state.copy();
        if (more >= 0) {
            s.where.set(more, p);
        }
        Map<String, Integer> far = new HashMap<>();
        ArrayDeque<State> queue = new ArrayDeque<>();
        far.put(s.told(), 0);
        queue.add(s);
        while (!queue.isEmpty()) {
            State now = queue.poll();
            states.add(now);
            int acts = far.get(now.told());
            for (int i = 0; i < t.doors.size() + now.rows.size(); i++) {
                State then = now.copy();
                int did = i < t.doors.size() ? t.go(then, p, i) : t.open(then, p, i - t.doors.size());
                if (did >= 0 && !far.containsKey(then.told())) {
                    far.put(then.told(), acts + 1);
                    queue.add(then);
                }
            }
        }
        return far;
    }

    private int comes(int p, int place, int more) {
        List<State> states = new ArrayList<>();
        Map<String, Integer> far = walk(p, more, states);
        for (State s : states) {
            if (s.spots.get(p) == place) {
                return far.get(s.told());
            }
        }
        return -1;
    }

    private int places(int p) {
        List<State> states = new ArrayList<>();
        walk(p, -1, states);
        int bits = 0;
        for (State s : states) {
            bits |= 1 << s.spots.get(p);
        }
        return bits;
    }

    public int person(int p, int what) {
        if (!isP(p)) {
            return -1;
        }
        if (what == 1) {
            int bits = 0;
            for (int k = 0; k < t.state.where.size(); k++) {
                bits |= t.state.where.get(k) == p ? 1 << k : 0;
            }
            return bits;
        }
        return what == 0 ? t.state.spots.get(p) : what == 2 ? Integer.bitCount(places(p)) : what == 3 ? places(p) : -1;
    }

    private int act(int answer) {
        return answer < 0 ? no(2) : answer;
    }

    public int go(int p, int d) {
        return act(t.go(t.state, p, d));
    }

    public int open(int p, int k) {
        return act(t.open(t.state, p, k));
    }

    public int shut(int p, int k, int d) {
        return act(t.shutAct(t.state, p, k, d));
    }

    private boolean owns(int p, int k) {
        return isP(p) && isK(k) && t.state.where.get(k) == p;
    }

    public boolean lend(int p, int k, int to) {
        boolean may = owns(p, k) && isP(to) && to != p && t.state.spots.get(p).equals(t.state.spots.get(to));
        if (may) {
            t.state.where.set(k, to);
        }
        return said(may, 3);
    }

    private boolean openBox(int p, int box) {
        return isD(box) && t.doors.get(box).box && t.at(t.state, p, box) && !t.shut(t.state, box);
    }

    public boolean take(int p, int k) {
        boolean may = isP(p) && isK(k) && (t.state.where.get(k) == 10 + t.state.spots.get(p)
                || t.state.where.get(k) >= 20 && t.state.where.get(k) < 30 && openBox(p, t.state.where.get(k) - 20));
        if (may) {
            t.state.where.set(k, p);
        }
        return said(may, 3);
    }

    public boolean lay(int p, int k, int box) {
        boolean may = owns(p, k) && (box == -1 || openBox(p, box));
        if (may) {
            t.state.where.set(k, box == -1 ? 10 + t.state.spots.get(p) : 20 + box);
        }
        return said(may, 3);
    }

    public int snap(int k) {
        if (!isK(k) || t.state.where.get(k) == 40) {
            return no(3);
        }
        t.state.where.set(k, 40);
        return t.state.rows.get(k).size();
    }

    public int row() {
        String told = torn();
        State s = t.state.copy();
        for (int act = 0; act * 3 < told.length(); act++) {
            if (act * 3 + 3 > told.length()) {
                return act;
            }
            int p = told.charAt(act * 3);
            int kind = told.charAt(act * 3 + 1);
            int what = told.charAt(act * 3 + 2);
            int did = -1;
            if (kind == 0) {
                did = t.go(s, p, what);
            } else if (kind == 1) {
                did = t.open(s, p, what);
            } else if (kind == 2) {
                int k = 0;
                while (k < s.where.size() && (s.where.get(k) != p || s.rows.get(k).contains(what))) {
                    k++;
                }
                did = t.shutAct(s, p, k, what);
            }
            if (did < 0) {
                return act;
            }
        }
        return -1;
    }

    public int reach(int p, int place) {
        return isP(p) && isPlace(place) ? comes(p, place, -1) : -1;
    }

    public int opens(int p, int d) {
        if (!isP(p) || !isD(d)) {
            return -1;
        }
        List<State> states = new ArrayList<>();
        Map<String, Integer> far = walk(p, -1, states);
        for (State s : states) {
            if (!t.shut(s, d)) {
                return far.get(s.told());
            }
        }
        return -1;
    }

    private int hadNow(int p, State s) {
        int had = 0;
        for (int i = 0; i < t.wants.get(p).size(); i++) {
            int w = t.things.get(t.wants.get(p).get(i));
            if (w < 20 ? s.spots.get(p) == w - 10 : t.at(s, p, w - 20) && !t.shut(s, w - 20)) {
                had |= 1 << i;
            }
        }
        return had;
    }

    public int errands(int p) {
        if (!isP(p)) {
            return -1;
        }
        int all = (1 << t.wants.get(p).size()) - 1;
        Map<String, Integer> far = new HashMap<>();
        ArrayDeque<State> queue = new ArrayDeque<>();
        ArrayDeque<Integer> hads = new ArrayDeque<>();
        far.put(t.state.told() + hadNow(p, t.state), 0);
        queue.add(t.state.copy());
        hads.add(hadNow(p, t.state));
        while (!queue.isEmpty()) {
            State now = queue.poll();
            int had = hads.poll();
            int acts = far.get(now.told() + had);
            if (had == all) {
                return acts;
            }
            for (int i = 0; i < t.doors.size() + now.rows.size(); i++) {
                State then = now.copy();
                int did = i < t.doors.size() ? t.go(then, p, i) : t.open(then, p, i - t.doors.size());
                int has = had | hadNow(p, then);
                if (did >= 0 && !far.containsKey(then.told() + has)) {
                    far.put(then.told() + has, acts + 1);
                    queue.add(then);
                    hads.add(has);
                }
            }
        }
        return -1;
    }

    public int lent(int p, int place, int what) {
        if (!isP(p) || !isPlace(place) || what < 0 || what > 2) {
            return -1;
        }
        int best = -1;
        int acts = Integer.MAX_VALUE;
        for (int k = 0; k < t.state.where.size(); k++) {
            if (t.state.where.get(k) != p && t.state.where.get(k) != 40) {
                int n = comes(p, place, k);
                if (n >= 0 && n < acts) {
                    best = k;
                    acts = n;
                }
            }
        }
        if (best < 0) {
            return -1;
        }
        int alone = comes(p, place, -1);
        return what == 0 ? best : what == 1 ? acts : alone < 0 ? -1 : alone - acts;
    }

    public int locked() {
        int bits = 0;
        for (int p = 0; p < t.state.spots.size(); p++) {
            boolean door = false;
            for (int d = 0; d < t.doors.size(); d++) {
                door |= !t.doors.get(d).box && t.at(t.state, p, d);
            }
            if (door && Integer.bitCount(places(p)) == 1) {
                bits |= 1 << p;
            }
        }
        return bits;
    }

    private boolean together(int persons, int d) {
        boolean may = !t.doors.get(d).lost;
        for (int k = 0; k < t.state.where.size(); k++) {
            if (t.state.rows.get(k).contains(d)) {
                int w = t.state.where.get(k);
                may &= w < 10 && (persons >> w & 1) == 1;
            }
        }
        return may;
    }

    public int can(int persons, int d) {
        return !isD(d) || persons < 0 || persons > (1 << t.state.spots.size()) - 1 ? -1 : together(persons, d) ? 1 : 0;
    }

    public int needs(int d, int what) {
        int all = (1 << t.state.spots.size()) - 1;
        if (!isD(d) || what < 0 || what > 1 || !together(all, d)) {
            return -1;
        }
        int least = 9;
        for (int set = 0; set <= all; set++) {
            if (together(set, d)) {
                least = Math.min(least, Integer.bitCount(set));
            }
        }
        int work = 0;
        for (List<Integer> row : t.state.rows) {
            work += row.contains(d) ? row.size() - row.indexOf(d) : 0;
        }
        return what == 0 ? least : work;
    }

    private boolean crossing(int i, int j) {
        int[] a = t.musts.get(i);
        int[] b = t.musts.get(j);
        boolean over = a[1] < b[1] && b[1] < a[2] && b[2] > a[2] || b[1] < a[1] && a[1] < b[2] && a[2] > b[2];
        return over || a[0] == b[0] && a[1] < b[2] && b[1] < a[2];
    }

    public int cross(int what) {
        for (int i = 0; i < t.musts.size(); i++) {
            for (int j = 0; j < t.musts.size(); j++) {
                if (i != j && crossing(i, j)) {
                    return what == 0 ? i : what == 1 ? j : -1;
                }
            }
        }
        return -1;
    }

    public int fewest(int k) {
        int n = t.musts.size();
        if (k < -1 || k >= n) {
            return -1;
        }
        for (int keys = 0; keys <= 6; keys++) {
            for (int code = 0; code < Math.pow(keys, n); code++) {
                int[] give = new int[n];
                int rest = code;
                for (int i = n - 1; i >= 0; i--) {
                    give[i] = rest % keys;
                    rest /= keys;
                }
                boolean good = true;
                for (int i = 0; i < n; i++) {
                    for (int j = 0; j < i; j++) {
                        good &= give[i] != give[j] || !crossing(i, j);
                    }
                }
                if (good) {
                    return k == -1 ? keys : give[k];
                }
            }
        }
        return -2;
    }

    public int order(int k) {
        List<Integer> l = new ArrayList<>();
        for (int i = 0; i < t.musts.size(); i++) {
            l.add(i);
        }
        l.sort((i, j) -> {
            int[] a = t.musts.get(i);
            int[] b = t.musts.get(j);
            return a[1] != b[1] ? a[1] - b[1] : a[2] != b[2] ? b[2] - a[2] : i - j;
        });
        return k < 0 || k >= l.size() ? -1 : l.get(k);
    }

    private void longer(List<List<Integer>> all, List<Integer> row, int size) {
        if (row.size() == size) {
            all.add(row);
            return;
        }
        for (int d = 0; d < t.doors.size(); d++) {
            if (t.doors.get(d).lost && !row.contains(d)) {
                List<Integer> more = new ArrayList<>(row);
                more.add(d);
                longer(all, more, size);
            }
        }
    }

    /** The rows that fit, each with what is left of it behind the trials. */
    private List<List<List<Integer>>> fitting() {
        List<List<Integer>> all = new ArrayList<>();
        for (int size = 0; size <= 3; size++) {
            longer(all, new ArrayList<>(), size);
        }
        List<List<List<Integer>>> good = new ArrayList<>();
        for (List<Integer> row : all) {
            List<Integer> left = new ArrayList<>(row);
            boolean fits = true;
            for (int[] trial : trials) {
                boolean opens = !left.isEmpty() && left.get(left.size() - 1) == trial[0];
                fits &= opens == (trial[1] == 1);
                if (fits && opens) {
                    left.remove(left.size() - 1);
                }
            }
            if (fits) {
                good.add(Arrays.asList(row, left));
            }
        }
        return good;
    }

    public int trial(int d, boolean opened) {
        if (!isD(d) || trials.size() >= 20) {
            return no(4);
        }
        trials.add(new int[] {d, opened ? 1 : 0});
        return fitting().size();
    }

    public int fits(int k) {
        List<List<List<Integer>>> good = fitting();
        if (k == -1) {
            return good.size();
        }
        return good.isEmpty() || k < 0 || k >= good.get(0).get(0).size() ? -1 : good.get(0).get(0).get(k);
    }

    public int would(int d) {
        if (!isD(d)) {
            return -1;
        }
        int n = 0;
        for (List<List<Integer>> f : fitting()) {
            List<Integer> left = f.get(1);
            n += !left.isEmpty() && left.get(left.size() - 1) == d ? 1 : 0;
        }
        return n;
    }

    public int unsay() {
        if (trials.isEmpty()) {
            return no(4);
        }
        trials.remove(trials.size() - 1);
        return trials.size();
    }

    /** Minute by minute: the sets of places come through, with where one stands. */
    public int round(int p, int places) {
        if (!isP(p)) {
            return -1;
        }
        int start = t.state.spots.get(p);
        int goal = places & (1 << t.names.get(0).size()) - 1;
        int[] best = new int[256 * 8];
        Arrays.fill(best, Integer.MAX_VALUE);
        best[(1 << start) * 8 + start] = 0;
        boolean changed = true;
        while (changed) {
            changed = false;
            for (int i = 0; i < best.length; i++) {
                for (int d = 0; d < t.doors.size() && best[i] < Integer.MAX_VALUE; d++) {
                    Door door = t.doors.get(d);
                    if (!door.box && !t.shut(t.state, d) && (door.a == i % 8 || door.b == i % 8)) {
                        int to = door.a + door.b - i % 8;
                        int j = (i / 8 | 1 << to) * 8 + to;
                        if (best[i] + door.minutes < best[j]) {
                            best[j] = best[i] + door.minutes;
                            changed = true;
                        }
                    }
                }
            }
        }
        int least = Integer.MAX_VALUE;
        for (int set = 0; set < 256; set++) {
            if ((set & goal) == goal) {
                least = Math.min(least, best[set * 8 + start]);
            }
        }
        return least == Integer.MAX_VALUE ? -1 : least;
    }

    private static int sum(List<Integer> bytes) {
        int c = 19;
        for (int b : bytes) {
            c = (3 * c + b) % 233;
        }
        return c;
    }

    public int image() {
        latest = new ArrayList<>(t.state.spots);
        for (int k = 0; k < t.state.where.size(); k++) {
            latest.add(t.state.where.get(k));
            latest.add(t.state.rows.get(k).size());
            latest.addAll(t.state.rows.get(k));
        }
        latest.add(sum(latest));
        return latest.size();
    }

    public int octet(int k) {
        return k < 0 || k >= latest.size() ? -1 : latest.get(k);
    }

    public boolean on() {
        String s = torn();
        State then = new State();
        int at = 0;
        List<Integer> b = new ArrayList<>();
        for (char c : s.toCharArray()) {
            b.add((int) c);
        }
        for (int p = 0; p < t.state.spots.size(); p++) {
            if (at >= b.size() || !isPlace(b.get(at))) {
                return said(false, 5);
            }
            then.spots.add(b.get(at++));
        }
        for (int k = 0; k < t.state.where.size(); k++) {
            if (at + 2 > b.size() || b.get(at + 1) > 6 || at + 2 + b.get(at + 1) > b.size()) {
                return said(false, 5);
            }
            int w = b.get(at);
            if (!(isP(w) || isPlace(w - 10) || isD(w - 20) && t.doors.get(w - 20).box || w == 40)) {
                return said(false, 5);
            }
            List<Integer> row = new ArrayList<>(b.subList(at + 2, at + 2 + b.get(at + 1)));
            if (new HashSet<>(row).size() != row.size()) {
                return said(false, 5);
            }
            for (int d : row) {
                if (!isD(d)) {
                    return said(false, 5);
                }
            }
            then.where.add(w);
            then.rows.add(row);
            at += 2 + row.size();
        }
        if (at + 1 != b.size() || sum(b.subList(0, at)) != b.get(at)) {
            return said(false, 5);
        }
        t.state = then;
        return true;
    }

    public int status(int what) {
        return what < 0 || what > 5 ? -1 : refusals[what];
    }
}
