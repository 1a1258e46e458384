import java.util.ArrayList;
import java.util.List;
import java.util.Random;

/** Makes texts of towns, most of them good ones, for comparing with the model. */
final class Towns {
    private static final String[] OWN = {"place", "door", "box", "at", "key", "in", "person", "has", "shut", "by", "lost",
        "thing", "wants", "must", "bar", "when", "or", "and", "not", "all", "who", "spot", "keys", "closed", "min", "max"};

    private final Random random;
    private final List<String> tokens = new ArrayList<>();
    private final List<List<String>> names = new ArrayList<>();
    private final List<String> boxes = new ArrayList<>();
    private int made;

    Towns(Random random) {
        this.random = random;
        for (int i = 0; i < 5; i++) {
            names.add(new ArrayList<>());
        }
    }

    private boolean chance(int percent) {
        return random.nextInt(100) < percent;
    }

    private void put(String... words) {
        for (String word : words) {
            tokens.add(word);
        }
    }

    private String fresh(int kind) {
        String name = "" + (char) ('a' + kind) + (char) ('a' + made % 26) + (chance(20) ? "zzzz" : "");
        made++;
        names.get(kind).add(name);
        return name;
    }

    private String some(int kind) {
        List<String> l = names.get(kind);
        return l.isEmpty() ? "nobody" : l.get(random.nextInt(l.size()));
    }

    private String spot() {
        return !boxes.isEmpty() && chance(50) ? boxes.get(random.nextInt(boxes.size())) : some(0);
    }

    /** A text; wild ones break limits and rules more often. */
    String text(boolean wild) {
        boolean along = chance(50);
        int extra = wild && chance(10) ? 1 : 0;
        int places = 1 + random.nextInt(8) + extra;
        for (int i = 0; i < places; i++) {
            put("place", fresh(0), ";");
        }
        int doors = (chance(70) ? 4 + random.nextInt(7) : random.nextInt(11)) + (wild && chance(10) ? 1 : 0);
        for (int i = 0; i < doors; i++) {
            if (places > 1 && chance(80)) {
                int a = along ? i % places : random.nextInt(places);
                int b = chance(60) ? (a + 1) % places : (a + 1 + random.nextInt(places - 1)) % places;
                put("door", fresh(1), names.get(0).get(a), names.get(0).get(b), "" + (1 + random.nextInt(chance(70) ? 9 : 99)));
            } else {
                String box = fresh(1);
                boxes.add(box);
                put("box", box, "at", some(0));
            }
            put(";");
        }
        int keys = random.nextInt(5) + (wild && chance(10) ? 1 : 0);
        for (int i = 0; i < keys; i++) {
            String key = fresh(2);
            put("key", key, "in", spot(), ";");
        }
        int persons = (chance(90) ? 1 + random.nextInt(3) : 0) + (wild && chance(10) ? 1 : 0);
        for (int i = 0; i < persons; i++) {
            put("person", fresh(3), "at", along && chance(80) ? names.get(0).get(0) : some(0), ";");
        }
        int things = random.nextInt(5) + (wild && chance(10) ? 1 : 0);
        for (int i = 0; i < things; i++) {
            String thing = fresh(4);
            put("thing", thing, "in", spot(), ";");
        }
        if (along) {
            ownedAlong(keys, persons);
        } else {
            owned(keys, persons, wild);
        }
        told(doors, persons, things, wild);
        return joined(wild);
    }

    /** Mostly shut from the last door on, so that one who comes along the doors by numbers can open them. */
    private void ownedAlong(int keys, int persons) {
        int[] row = new int[keys];
        for (int k = 0; k < keys; k++) {
            if (persons > 0 && chance(90)) {
                put("has", chance(80) ? names.get(3).get(0) : some(3), names.get(2).get(k), ";");
            }
        }
        for (int d = names.get(1).size() - 1; d >= 0 && keys > 0; d--) {
            for (int k = 0; k < keys; k++) {
                if (row[k] < 6 && chance(50)) {
                    put("shut", names.get(1).get(d), "by", names.get(2).get(k), ";");
                    row[k]++;
                }
            }
        }
    }

    private void owned(int keys, int persons, boolean wild) {
        boolean few = chance(60);
        for (int k = 0; k < keys; k++) {
            if (persons > 0 && chance(70)) {
                put("has", some(3), names.get(2).get(k), ";");
            }
            List<String> left = new ArrayList<>(names.get(1));
            int most = wild && chance(10) ? 7 : 6;
            int row = random.nextInt(few ? 3 : most + 1);
            for (int i = 0; i < row && !left.isEmpty(); i++) {
                int at = random.nextInt(left.size());
                put("shut", left.get(at), "by", names.get(2).get(k), ";");
                if (!wild || !chance(5)) {
                    left.remove(at);
                }
            }
        }
        int share = new int[] {0, 10, 60}[random.nextInt(3)];
        for (String door : names.get(1)) {
            if (chance(share)) {
                put("lost", door, ";");
            }
        }
    }

    private void told(int doors, int persons, int things, boolean wild) {
        for (int p = 0; p < persons; p++) {
            int wants = random.nextInt(3 + (wild && chance(20) ? 1 : 0));
            int from = random.nextInt(4);
            for (int i = 0; i < wants && i < things; i++) {
                put("wants", names.get(3).get(p), names.get(4).get((from + i) % things), ";");
            }
        }
        int musts = doors == 0 ? 0 : random.nextInt(7) + (wild && chance(10) ? 1 : 0);
        for (int i = 0; i < musts; i++) {
            int a = random.nextInt(chance(80) ? 12 : 1440);
            int b = Math.min(1439, a + random.nextInt(8));
            put("must", some(1), "" + a, "" + (wild && chance(5) ? a - 1 < 0 ? 1440 : a - 1 : b), ";");
        }
        int bars = doors == 0 || chance(30) ? 0 : random.nextInt(7);
        for (int i = 0; i < bars; i++) {
            String door = some(1);
            if (wild && chance(10) || !boxes.contains(door)) {
                put("bar", door, "when");
                test(0, wild && chance(20) ? 12 : 3);
                put(";");
            }
        }
    }

    private void test(int depth, int deepest) {
        both(depth, deepest);
        while (chance(20)) {
            put("or");
            both(depth, deepest);
        }
    }

    private void both(int depth, int deepest) {
        fact(depth, deepest);
        while (chance(20)) {
            put("and");
            fact(depth, deepest);
        }
    }

    private void fact(int depth, int deepest) {
        while (chance(20)) {
            put("not");
        }
        if (chance(5)) {
            put("all");
        } else if (depth < deepest && chance(deepest > 3 ? 70 : 15)) {
            put("[");
            test(depth + 1, deepest);
            put("]");
        } else {
            sum(depth, deepest);
            put(new String[] {"<", ">", "="}[random.nextInt(3)]);
            sum(depth, deepest);
        }
    }

    private void sum(int depth, int deepest) {
        product(depth, deepest);
        while (chance(20)) {
            put(chance(50) ? "+" : "-");
            product(depth, deepest);
        }
    }

    private void product(int depth, int deepest) {
        part(depth, deepest);
        while (chance(20)) {
            put(new String[] {"*", "/", "%"}[random.nextInt(3)]);
            part(depth, deepest);
        }
    }

    private void part(int depth, int deepest) {
        int kind = random.nextInt(depth < deepest ? 8 : 6);
        if (kind < 4) {
            put(new String[] {"who", "spot", "keys", "closed"}[kind]);
        } else if (kind < 6) {
            put("" + random.nextInt(chance(80) ? 9 : 10000));
        } else if (kind == 6) {
            put("(");
            sum(depth + 1, deepest);
            put(")");
        } else {
            put(chance(50) ? "min" : "max", "(");
            sum(depth + 1, deepest);
            put(",");
            sum(depth + 1, deepest);
            put(")");
        }
    }

    private void spoil() {
        int at = random.nextInt(tokens.size());
        switch (random.nextInt(8)) {
            case 0:
                tokens.remove(at);
                break;
            case 1:
                tokens.add(at, tokens.get(random.nextInt(tokens.size())));
                break;
            case 2:
                tokens.set(at, tokens.get(random.nextInt(tokens.size())));
                break;
            case 3:
                tokens.set(at, OWN[random.nextInt(OWN.length)]);
                break;
            case 4:
                tokens.set(at, "" + random.nextInt(100000));
                break;
            case 5:
                tokens.set(at, "abcdefghij".substring(0, 5 + random.nextInt(5)));
                break;
            case 6:
                tokens.set(at, tokens.get(at) + (char) random.nextInt(256));
                break;
            default:
                tokens.set(at, some(random.nextInt(5)));
        }
    }

    private static boolean wordy(char c) {
        return c >= 'a' && c <= 'z' || c >= '0' && c <= '9';
    }

    private String joined(boolean wild) {
        if (wild && !tokens.isEmpty() && chance(60)) {
            spoil();
        }
        StringBuilder text = new StringBuilder();
        for (String token : tokens) {
            if (token.isEmpty()) {
                continue;
            }
            boolean side = text.length() > 0 && wordy(text.charAt(text.length() - 1)) && wordy(token.charAt(0));
            if (side && !(wild && chance(1)) || chance(3)) {
                text.append(chance(95) ? ' ' : '\n');
            }
            text.append(token);
        }
        if (wild && chance(5)) {
            text.setLength(random.nextInt(text.length() + 1));
        }
        if (text.length() > 1600) {
            text.setLength(wild ? 1600 : 0);
        }
        return text.toString();
    }
}
