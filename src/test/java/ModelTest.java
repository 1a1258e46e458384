import java.lang.reflect.InvocationTargetException;
import java.lang.reflect.Method;
import java.lang.reflect.Modifier;
import java.util.ArrayList;
import java.util.Arrays;
import java.util.Comparator;
import java.util.List;
import java.util.Random;

/** Runs of calls by numbers that are always the same, on the class and on the model: every answer must be alike. */
public final class ModelTest {
    private static final int CALLS = 512;
    private static final int[] EXTREMES = {Integer.MIN_VALUE, Integer.MAX_VALUE, -2, -1, 0, 31, 32, 63, 255, 256, 1 << 30};

    private final Random random;
    private final StackKeys real = new StackKeys();
    private final Model model = new Model();
    private final List<String> log = new ArrayList<>();
    private int wrong;
    private static int goodTowns;
    private static int comings;
    private static int errands;
    private static final int[] FAULTS = new int[6];

    private ModelTest(long seed) {
        random = new Random(seed);
    }

    private static Method[] face() {
        List<Method> all = new ArrayList<>();
        for (Method m : StackKeys.class.getDeclaredMethods()) {
            if (Modifier.isPublic(m.getModifiers())) {
                all.add(m);
            }
        }
        all.sort(Comparator.comparing(Method::getName));
        return all.toArray(new Method[0]);
    }

    private Object call(String name, Object... args) throws ReflectiveOperationException {
        if (log.size() >= CALLS) {
            return null;
        }
        Method m = null;
        for (Method one : FACE) {
            if (one.getName().equals(name)) {
                m = one;
            }
        }
        Object want = Model.class.getMethod(name, m.getParameterTypes()).invoke(model, args);
        Object got;
        try {
            got = m.invoke(real, args);
        } catch (InvocationTargetException e) {
            got = e.getCause();
        }
        log.add(name + Arrays.toString(args) + " = " + want);
        if (!want.equals(got)) {
            wrong++;
            System.out.println(log.get(log.size() - 1) + " but got " + got);
        }
        return want;
    }

    private static final Method[] FACE = face();

    private void feed(List<Integer> bytes) throws ReflectiveOperationException {
        List<Integer> padded = new ArrayList<>(bytes);
        while (padded.size() % 20 != 0) {
            padded.add(random.nextInt(256));
        }
        for (int i = 0; i < padded.size(); i += 20) {
            Object[] five = new Object[5];
            for (int j = 0; j < 5; j++) {
                int at = i + 4 * j;
                five[j] = padded.get(at) << 24 | padded.get(at + 1) << 16 | padded.get(at + 2) << 8 | padded.get(at + 3);
            }
            call("feed", five);
        }
        call("end", bytes.size());
    }

    private void clearTape() throws ReflectiveOperationException {
        call("end", 0);
    }

    private void town(boolean wild) throws ReflectiveOperationException {
        clearTape();
        String text = new Towns(random).text(wild);
        List<Integer> bytes = new ArrayList<>();
        for (char c : text.toCharArray()) {
            bytes.add((int) c);
        }
        feed(bytes);
        Object statements = call("town");
        if (statements == null) {
            return;
        }
        if ((Integer) statements >= 0) {
            goodTowns++;
        } else if (!wild) {
            wrong++;
            System.out.println("a tame town was refused: " + text + model.fault(0) + " " + model.fault(1));
        }
        FAULTS[model.fault(0)]++;
        call("fault", 0);
        call("fault", 1);
    }

    private static boolean allFaults() {
        for (int count : FAULTS) {
            if (count == 0) {
                return false;
            }
        }
        return true;
    }

    private int argument() {
        if (random.nextInt(40) == 0) {
            return EXTREMES[random.nextInt(EXTREMES.length)];
        }
        return random.nextInt(10) < 9 ? random.nextInt(random.nextBoolean() ? 4 : 11) - (random.nextInt(8) == 0 ? 1 : 0)
                : random.nextInt(300) - 20;
    }

    private void any() throws ReflectiveOperationException {
        Method m = FACE[random.nextInt(FACE.length)];
        if (Arrays.asList("feed", "end", "town", "on", "snap").contains(m.getName()) && random.nextInt(10) != 0) {
            return;
        }
        Object[] args = new Object[m.getParameterCount()];
        for (int i = 0; i < args.length; i++) {
            args[i] = m.getParameterTypes()[i] == int.class ? (Object) argument() : (Object) random.nextBoolean();
        }
        call(m.getName(), args);
    }

    /** An image of the present, at times with a byte changed, and the last byte made right or not. */
    private void image() throws ReflectiveOperationException {
        Integer size = (Integer) call("image");
        List<Integer> bytes = new ArrayList<>();
        for (int k = 0; size != null && k < size; k++) {
            bytes.add(model.octet(k));
            call("octet", k);
        }
        if (bytes.isEmpty()) {
            return;
        }
        int last = bytes.size() - 1;
        int changes = random.nextInt(3);
        for (int i = 0; i < changes && last > 0; i++) {
            int at = random.nextInt(last);
            bytes.set(at, random.nextInt(4) == 0 ? random.nextInt(256) : random.nextInt(5) == 0 ? 40 : random.nextInt(25));
        }
        if (random.nextInt(10) > 0) {
            int c = 19;
            for (int i = 0; i < last; i++) {
                c = (3 * c + bytes.get(i)) % 233;
            }
            bytes.set(last, c);
        }
        if (random.nextInt(10) == 0) {
            bytes.add(random.nextInt(256));
        }
        clearTape();
        feed(bytes);
        call("on");
    }

    private void acts() throws ReflectiveOperationException {
        clearTape();
        List<Integer> bytes = new ArrayList<>();
        int count = random.nextInt(8);
        for (int i = 0; i < count; i++) {
            bytes.add(random.nextInt(3));
            bytes.add(random.nextInt(random.nextInt(10) == 0 ? 5 : 3));
            bytes.add(random.nextInt(10));
        }
        if (random.nextInt(6) == 0) {
            bytes.add(random.nextInt(256));
        }
        feed(bytes);
        call("row");
    }

    /** An act that can be often enough: doors and keys where the person is. */
    private void step() throws ReflectiveOperationException {
        int p = random.nextInt(3);
        int which = random.nextInt(6);
        if (which < 2) {
            call("go", p, random.nextInt(10));
        } else if (which == 2) {
            call("open", p, random.nextInt(4));
        } else if (which == 3) {
            call("shut", p, random.nextInt(4), random.nextInt(10));
        } else if (which == 4) {
            call("take", p, random.nextInt(4));
        } else {
            call("lend", p, random.nextInt(4), random.nextInt(3));
        }
    }

    private void comeEverywhere() throws ReflectiveOperationException {
        int p = random.nextInt(Math.max(1, model.has(3)));
        for (int place = 0; place < model.has(0); place++) {
            Object answer = call("reach", p, place);
            comings += answer != null && (Integer) answer > 2 ? 1 : 0;
            call("lent", p, place, random.nextInt(3));
        }
        for (int door = 0; door < model.has(1); door++) {
            call("opens", p, door);
        }
        Object answer = call("errands", p);
        errands += answer != null && (Integer) answer > 2 ? 1 : 0;
        call("round", p, random.nextInt(256));
        call("locked");
    }

    private void run() throws ReflectiveOperationException {
        if (random.nextInt(10) == 0) {
            any();
        }
        town(random.nextInt(3) == 0);
        comeEverywhere();
        while (log.size() < CALLS) {
            int kind = random.nextInt(40);
            if (kind < 24) {
                any();
            } else if (kind < 34) {
                step();
            } else if (kind < 36) {
                acts();
            } else if (kind < 37) {
                image();
            } else if (kind < 38) {
                comeEverywhere();
            } else if (random.nextInt(10) == 0) {
                town(random.nextInt(3) > 0);
            }
        }
    }

    public static void main(String[] args) throws ReflectiveOperationException {
        int runs = args.length > 0 ? Integer.parseInt(args[0]) : 300;
        int from = args.length > 1 ? Integer.parseInt(args[1]) : 0;
        int bad = 0;
        for (int seed = from; seed < from + runs; seed++) {
            ModelTest test = new ModelTest(seed);
            test.run();
            if (test.wrong > 0) {
                System.out.println("run " + seed + ": " + test.wrong + " answers unlike the model's");
                bad++;
            }
        }
        System.out.println(runs + " runs against the model with " + goodTowns + " towns, " + comings + " long ways, "
                + errands + " long errands, faults by number " + Arrays.toString(FAULTS) + "; " + bad + " bad");
        if (goodTowns < runs / 2 || comings < runs / 2 || errands < runs / 20 || !allFaults()) {
            System.out.println("the runs try too little");
            bad++;
        }
        if (bad > 0) {
            System.exit(1);
        }
    }
}
