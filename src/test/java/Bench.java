/** What the tests of answers share: tapes are fed, towns told, answers compared with what is due. */
abstract class Bench {
    static final int NONE = StackKeys.NONE;
    static final int LOW = Integer.MIN_VALUE;
    static final int HIGH = Integer.MAX_VALUE;

    static int wrong;
    static int asked;
    static int promise;
    static String sentence = "";

    static void due(long got, long want) {
        asked++;
        if (got != want) {
            wrong++;
            System.out.println("promise " + promise + sentence + ", " + caller() + ": answered " + got + ", due is " + want);
        }
    }

    static void due(boolean got, boolean want) {
        due(got ? 1 : 0, want ? 1 : 0);
    }

    static void due(String got, String want) {
        asked++;
        if (!got.equals(want)) {
            wrong++;
            System.out.println("promise " + promise + sentence + ", " + caller() + ": " + got + ", due is " + want);
        }
    }

    private static String caller() {
        for (StackTraceElement at : new Throwable().getStackTrace()) {
            if (!at.getClassName().equals("Bench")) {
                return at.getFileName() + " line " + at.getLineNumber();
            }
        }
        return "";
    }

    /** Puts just these bytes behind the tape, what fills up the last twenty being cut off again. */
    static void feed(StackKeys x, int... bytes) {
        int[] padded = java.util.Arrays.copyOf(bytes, (bytes.length + 19) / 20 * 20);
        int size = 0;
        for (int i = 0; i < padded.length; i += 20) {
            int[] n = new int[5];
            for (int j = 0; j < 20; j++) {
                n[j / 4] = n[j / 4] << 8 | padded[i + j];
            }
            size = x.feed(n[0], n[1], n[2], n[3], n[4]);
        }
        if (bytes.length > 0) {
            x.end(size - padded.length + bytes.length);
        }
    }

    static void feed(StackKeys x, String text) {
        feed(x, text.chars().toArray());
    }

    static int tell(StackKeys x, String text) {
        x.end(0);
        feed(x, text);
        return x.town();
    }

    /** A new object with this town, which must have no fault. */
    static StackKeys town(String text) {
        StackKeys x = new StackKeys();
        if (tell(x, text) == NONE) {
            due(NONE, 0);
            System.out.println("  fault " + x.fault(0) + " at " + x.fault(1) + " in " + text);
        }
        return x;
    }

    /** The text must be a town of so many statements. */
    static void good(String text, int statements) {
        StackKeys x = new StackKeys();
        int got = tell(x, text);
        due(got, statements);
        due(x.fault(0), 0);
        due(x.fault(1), NONE);
        if (got != statements) {
            System.out.println("  fault " + x.fault(0) + " at " + x.fault(1) + " in " + text);
        }
    }

    /** The text's fault must be this, at the place of the mark ^, which is taken out. */
    static void faulty(String marked, int fault) {
        int place = marked.indexOf('^');
        faultyAt(marked.substring(0, place) + marked.substring(place + 1), fault, place);
    }

    static void faultyAt(String text, int fault, int place) {
        StackKeys x = new StackKeys();
        due(tell(x, text), NONE);
        due(x.fault(0), fault);
        due(x.fault(1), place);
        if (x.fault(0) != fault || x.fault(1) != place) {
            System.out.println("  due at " + place + " in " + text);
        }
    }

    /** What row() answers to acts told by these bytes. */
    static int told(StackKeys x, int... bytes) {
        x.end(0);
        feed(x, bytes);
        return x.row();
    }

    static int sum(int... bytes) {
        int c = 19;
        for (int b : bytes) {
            c = (3 * c + b) % 233;
        }
        return c;
    }

    /** What on() answers to these bytes and the last one that belongs to them. */
    static boolean put(StackKeys x, int... bytes) {
        int[] all = java.util.Arrays.copyOf(bytes, bytes.length + 1);
        all[bytes.length] = sum(bytes);
        return putRaw(x, all);
    }

    static boolean putRaw(StackKeys x, int... bytes) {
        x.end(0);
        feed(x, bytes);
        return x.on();
    }

    /** Where persons and keys are, and the rows, without writing an image. */
    static String standing(StackKeys x) {
        StringBuilder all = new StringBuilder();
        for (int p = 0; p < x.has(3); p++) {
            all.append(x.person(p, 0)).append(' ');
        }
        for (int k = 0; k < x.has(2); k++) {
            all.append("| ").append(x.key(k, 0)).append(':');
            for (int i = 0; i < x.key(k, 1); i++) {
                all.append(' ').append(x.in(k, i));
            }
        }
        return all.toString();
    }

    static void finish(String what) {
        System.out.println(what + ", " + asked + " answers, " + wrong + " not as due");
        if (wrong > 0) {
            System.exit(1);
        }
    }
}
