import java.util.Arrays;

/** Promises 35 to 38 with part III of the terms: images written and put on, and refusals. */
final class ImageEdges extends Edges {
    /** Places a 0, b 1; doors d 0 and g 3, boxes e 1 and f 2, h 4 to l 8; persons p 0 at a, q 1 at b; keys k 0, m 1. */
    private static final String BASE = "place a;place b;door d a b 1;box e at a;box f at b;door g a b 2;box h at a;box i at a;"
            + "box j at a;box l at a;box o at a;person p at a;person q at b;key k in e;key m in b;";

    private ImageEdges() {
    }

    static void all() {
        images();
        lastByte();
        octets();
        puttingOn();
        persons();
        whereKeysAre();
        rows();
        lengths();
        refusals();
        refusalsOfNoOthers();
    }

    private static StackKeys base(String more) {
        return town(BASE + more);
    }

    private static void written(StackKeys x, int... bytes) {
        due(x.image(), bytes.length + 1);
        for (int k = 0; k < bytes.length; k++) {
            due(x.octet(k), bytes[k]);
        }
        due(x.octet(bytes.length), sum(bytes));
        due(x.octet(bytes.length + 1), NONE);
    }

    private static void images() {
        says(35, "AN IMAGE: for each PERSON its PLACE; for each KEY: 0 .. 2 the PERSON, 10 and the PLACE, 20 and the DOOR's number of "
                + "the BOX, 40 broken; how many are in its ROW; these;");
        says(35, "AN IMAGE is written: how many bytes.");
        written(new StackKeys());
        written(town("place a;"));
        written(town("place a;person p at a;"), 0);
        written(town("place a;key k in a;"), 10, 0);
        StackKeys x = base("");
        written(x, 0, 1, 21, 0, 11, 0);
        due(x.take(0, 0), true);
        due(x.take(1, 1), true);
        written(x, 0, 1, 0, 0, 1, 0);
        due(x.shut(0, 0, 3), 1);
        due(x.shut(0, 0, 0), 2);
        due(x.shut(1, 1, 0), 1);
        written(x, 0, 1, 0, 2, 3, 0, 1, 1, 0);
        due(x.snap(0), 2);
        due(x.lay(1, 1, 2), true);
        written(x, 0, 1, 40, 2, 3, 0, 22, 1, 0);
        StackKeys full = base("person r at b;has r k;shut o by k;shut l by k;shut j by k;shut i by k;shut h by k;shut g by k;");
        written(full, 0, 1, 1, 2, 6, 8, 7, 6, 5, 4, 3, 11, 0);
        StackKeys last = town("place a;place b;place c;place f;place g;place h;place i;place j;box x at j;box y at j;box z at j;"
                + "box s at j;box t at j;box u at j;box v at j;box w at j;box k at j;box l at j;key m in l;key n in j;key o in x;"
                + "key q in a;person r at j;");
        written(last, 7, 29, 0, 17, 0, 20, 0, 10, 0);
        StringBuilder rows = new StringBuilder(BASE + "person r at a;key n in a;key s in a;");
        for (String key : new String[] {"k", "m", "n", "s"}) {
            for (String door : new String[] {"o", "d", "l", "e", "j", "f"}) {
                rows.append("shut ").append(door).append(" by ").append(key).append(';');
            }
        }
        StackKeys most = town(rows.toString());
        int[] bytes = {0, 1, 0, 21, 6, 8, 0, 7, 1, 6, 2, 11, 6, 8, 0, 7, 1, 6, 2, 10, 6, 8, 0, 7, 1, 6, 2, 10, 6, 8, 0, 7, 1, 6, 2};
        written(most, bytes);
        due(most.image(), 36);
        due(put(most, bytes), true);
        bytes[34] = 3;
        due(put(most, bytes), true);
        due(most.in(3, 5), 3);
    }

    private static void lastByte() {
        says(35, "last a byte: all ahead from 19 on, c = (3 c + it) mod 233.");
        StackKeys none = new StackKeys();
        due(none.image(), 1);
        due(none.octet(0), 19);
        StackKeys one = town("place a;place b;person p at b;");
        due(one.image(), 2);
        due(one.octet(1), 58);
        StackKeys two = town("place a;place b;person p at b;person q at a;");
        due(two.image(), 3);
        due(two.octet(2), 174);
        StackKeys three = town("place a;place b;person p at b;person q at a;person r at b;");
        due(three.image(), 4);
        due(three.octet(3), (3 * 174 + 1) % 233);
        due(three.octet(3), 57);
    }

    private static void octets() {
        says(36, "Byte k of the latest image();");
        StackKeys x = base("has p k;shut e by k;");
        due(x.octet(0), NONE);
        due(x.image(), 8);
        due(x.octet(0), 0);
        due(x.octet(3), 1);
        due(x.octet(7), sum(0, 1, 0, 1, 1, 11, 0));
        due(x.open(0, 0), 1);
        due(x.go(0, 0), 1);
        due(x.octet(0), 0);
        due(x.octet(3), 1);
        due(tell(x, "place a;"), 1);
        due(x.octet(3), 1);
        due(putRaw(x, 19), true);
        due(x.octet(3), 1);
        due(x.image(), 1);
        due(x.octet(0), 19);
        due(x.octet(1), NONE);
        says(36, "NONE if there is none such.");
        StackKeys y = base("");
        for (int k : new int[] {0, -1, 1, LOW, HIGH}) {
            due(y.octet(k), NONE);
        }
        due(y.image(), 7);
        due(y.octet(6), sum(0, 1, 21, 0, 11, 0));
        for (int k : new int[] {7, 8, -1, -2, 36, LOW, HIGH}) {
            due(y.octet(k), NONE);
        }
    }

    private static void puttingOn() {
        says(37, "The tape (it goes) is AN IMAGE: true, PERSONS and KEYS are as it tells;");
        StackKeys x = base("shut d by k;lost f;");
        due(x.trial(2, true), 1);
        due(x.image(), 8);
        due(put(x, 1, 0, 40, 0, 1, 2, 3, 0), true);
        due(x.end(1), false);
        due(standing(x), "1 0 | 40:| 1: 3 0");
        due(x.door(0, 5), 1);
        due(x.has(8), 3);
        due(x.door(2, 6), 1);
        due(x.fits(0), 2);
        due(x.octet(0), 0);
        written(x, 1, 0, 40, 0, 1, 2, 3, 0);
        due(put(x, 0, 1, 21, 1, 0, 11, 0), true);
        due(standing(x), "0 1 | 21: 0| 11:");
        due(x.status(5), 0);
        says(37, "false if it is none, one of them can't be, or a DOOR is in a ROW twice (all stays).");
        String before = standing(x);
        int[][] none = {{}, {0}, {0, 1}, {0, 1, 21}, {2, 1, 21, 0, 11, 0}, {1, 1, 21, 0, 12, 0}, {1, 1, 21, 2, 0, 0, 11, 0},
            {1, 0, 0, 0, 0, 0, 0}};
        for (int[] bytes : none) {
            due(put(x, bytes), false);
            due(x.end(1), false);
            due(standing(x), before);
        }
        due(x.status(5), none.length);
        StackKeys empty = new StackKeys();
        due(empty.on(), false);
        due(putRaw(empty, 19), true);
        due(putRaw(empty, 18), false);
        due(putRaw(empty, 20), false);
        due(putRaw(empty, 19, 19), false);
        due(empty.status(5), 4);
    }

    private static void persons() {
        says(37, "one of them can't be,");
        StackKeys x = base("");
        for (int spot = 0; spot < 256; spot += spot < 4 ? 1 : 63) {
            due(put(x, spot, 1, 21, 0, 11, 0), spot < 2);
            due(put(x, 0, spot, 21, 0, 11, 0), spot < 2);
        }
        StackKeys eight = town("place a;place b;place c;place d;place e;place f;place g;place h;person p at a;");
        due(put(eight, 7), true);
        due(put(eight, 8), false);
        due(eight.person(0, 0), 7);
    }

    private static void whereKeysAre() {
        says(37, "0 .. 2 the PERSON, 10 and the PLACE, 20 and the DOOR's number of the BOX, 40 broken;");
        StackKeys x = base("");
        String can = " 0 1 10 11 21 22 24 25 26 27 28 40 ";
        for (int where = 0; where < 64; where++) {
            boolean may = can.contains(" " + where + " ");
            due(put(x, 0, 1, where, 0, 11, 0), may);
            if (may) {
                due(x.key(0, 0), where);
            }
        }
        due(put(x, 0, 1, 255, 0, 11, 0), false);
        due(put(x, 0, 1, 128, 0, 11, 0), false);
        due(put(base("person r at a;"), 0, 1, 0, 2, 0, 11, 0), true);
        due(put(base("person r at a;"), 0, 1, 0, 3, 0, 11, 0), false);
        StackKeys y = base("box z at b;");
        due(put(y, 0, 1, 29, 0, 11, 0), true);
        due(put(y, 0, 1, 30, 0, 11, 0), false);
    }

    private static void rows() {
        says(37, "or a DOOR is in a ROW twice (all stays).");
        StackKeys x = base("");
        due(put(x, 0, 1, 21, 1, 8, 11, 0), true);
        due(put(x, 0, 1, 21, 1, 9, 11, 0), false);
        due(put(x, 0, 1, 21, 1, 255, 11, 0), false);
        due(put(x, 0, 1, 21, 2, 3, 3, 11, 0), false);
        due(put(x, 0, 1, 21, 2, 0, 0, 1, 0), false);
        due(put(x, 0, 1, 21, 2, 1, 1, 0, 0), false);
        due(put(x, 0, 1, 21, 3, 3, 4, 3, 11, 0), false);
        due(put(x, 0, 1, 21, 2, 3, 4, 11, 2, 3, 4), true);
        due(put(x, 0, 1, 21, 2, 3, 4, 11, 2, 4, 4), false);
        due(x.door(3, 5), 2);
        due(put(x, 0, 1, 21, 6, 8, 7, 6, 5, 4, 3, 11, 0), true);
        due(x.key(0, 1), 6);
        due(put(x, 0, 1, 21, 6, 8, 7, 6, 5, 4, 8, 11, 0), false);
        due(put(x, 0, 1, 21, 7, 8, 7, 6, 5, 4, 3, 2, 11, 0), false);
        due(put(x, 0, 1, 21, 255, 8, 11, 0), false);
        due(put(x, 0, 1, 21, 128, 8, 11, 0), false);
        due(put(x, 0, 1, 21, 5, 8, 7, 6, 5, 4, 3, 11, 0), false);
        due(x.key(0, 1), 6);
        due(put(x, 0, 1, 21, 0, 11, 6, 0, 1, 2, 3, 4, 5), true);
        due(standing(x), "0 1 | 21:| 11: 0 1 2 3 4 5");
    }

    private static void lengths() {
        says(37, "false if it is none,");
        int[] whole = {1, 0, 0, 1, 3, 1, 2, 0, 3, 0};
        whole[9] = sum(Arrays.copyOf(whole, 9));
        StackKeys x = base("");
        for (int size = 0; size < 10; size++) {
            due(putRaw(x, Arrays.copyOf(whole, size)), false);
        }
        due(putRaw(x, Arrays.copyOf(whole, 11)), false);
        int[] wrong = whole.clone();
        for (int by : new int[] {-1, 1, 22}) {
            wrong[9] = (whole[9] + by + 256) % 256;
            due(putRaw(x, wrong), false);
        }
        due(standing(x), "0 1 | 21:| 11:");
        due(x.status(5), 14);
        due(putRaw(x, whole), true);
        due(standing(x), "1 0 | 0: 3| 1: 0 3");
        StackKeys low = town("place a;place b;place c;place d;place e;place f;place g;place h;person p at a;person q at a;"
                + "person r at a;");
        due(putRaw(low, 0, 7, 2, 70), true);
        due(putRaw(low, 0, 7, 2, 71), false);
        for (int p = 0; p < 512; p++) {
            int last = sum(p / 64, p / 8 % 8, p % 8);
            if (last < 23) {
                StackKeys more = town("place a;place b;place c;place d;place e;place f;place g;place h;person p at a;"
                        + "person q at a;person r at a;");
                due(putRaw(more, p / 64, p / 8 % 8, p % 8, last + 233), false);
                due(putRaw(more, p / 64, p / 8 % 8, p % 8, last), true);
            }
        }
        StackKeys big = base("");
        int[] much = new int[1600];
        due(putRaw(big, much), false);
    }

    private static void refused(StackKeys x, int... due) {
        for (int what = 0; what < 6; what++) {
            due(x.status(what), due[what]);
        }
    }

    private static void refusals() {
        says(38, "REFUSALS so far: 0 of feed() and end(), 1 of town(), 2 of go(), open(), shut(), 3 of lend(), take(), lay(), snap(), "
                + "4 of trial(), unsay(), 5 of on().");
        StackKeys x = base("");
        refused(x, 0, 0, 0, 0, 0, 0);
        x.end(-1);
        refused(x, 1, 0, 0, 0, 0, 0);
        due(tell(x, "!"), NONE);
        refused(x, 1, 1, 0, 0, 0, 0);
        due(x.go(0, 9), NONE);
        refused(x, 1, 1, 1, 0, 0, 0);
        due(x.open(0, 0), NONE);
        refused(x, 1, 1, 2, 0, 0, 0);
        due(x.shut(0, 0, 0), NONE);
        refused(x, 1, 1, 3, 0, 0, 0);
        due(x.lend(0, 0, 1), false);
        refused(x, 1, 1, 3, 1, 0, 0);
        due(x.take(0, 1), false);
        refused(x, 1, 1, 3, 2, 0, 0);
        due(x.lay(0, 0, NONE), false);
        refused(x, 1, 1, 3, 3, 0, 0);
        due(x.snap(9), NONE);
        refused(x, 1, 1, 3, 4, 0, 0);
        due(x.trial(9, true), NONE);
        refused(x, 1, 1, 3, 4, 1, 0);
        due(x.unsay(), NONE);
        refused(x, 1, 1, 3, 4, 2, 0);
        due(x.on(), false);
        refused(x, 1, 1, 3, 4, 2, 1);
        for (int i = 1; i <= 80; i++) {
            due(x.feed(0, 0, 0, 0, 0), 20 * i);
        }
        refused(x, 1, 1, 3, 4, 2, 1);
        due(x.feed(0, 0, 0, 0, 0), NONE);
        refused(x, 2, 1, 3, 4, 2, 1);
        due(tell(x, "place a;"), 1);
        refused(x, 2, 1, 3, 4, 2, 1);
        says(38, "NONE for others.");
        for (int what : new int[] {6, 7, -1, -2, LOW, HIGH}) {
            due(x.status(what), NONE);
        }
    }

    private static void refusalsOfNoOthers() {
        says(38, "REFUSALS so far:");
        StackKeys x = base("lost e;");
        due(x.fault(9), NONE);
        due(x.has(99), NONE);
        due(x.letter(9, 9, 9), NONE);
        due(x.door(99, 0), NONE);
        due(x.key(99, 0), NONE);
        due(x.in(99, 0), NONE);
        due(x.person(99, 0), NONE);
        due(told(x, 9, 9, 9), 0);
        due(x.reach(9, 9), NONE);
        due(x.opens(9, 9), NONE);
        due(x.errands(9), NONE);
        due(x.lent(9, 9, 9), NONE);
        due(x.can(9, 99), NONE);
        due(x.needs(99, 9), NONE);
        due(x.cross(9), NONE);
        due(x.fewest(9), NONE);
        due(x.order(9), NONE);
        due(x.fits(9), NONE);
        due(x.would(99), NONE);
        due(x.round(9, 9), NONE);
        due(x.octet(99), NONE);
        due(x.status(9), NONE);
        refused(x, 0, 0, 0, 0, 0, 0);
        due(x.go(0, 0), 1);
        due(x.go(0, 0), 0);
        due(x.go(1, 0), 0);
        due(x.take(1, 1), false);
        due(x.go(1, 0), 1);
        due(x.take(1, 1), true);
        due(x.shut(1, 1, 2), 1);
        due(x.open(1, 1), 2);
        due(x.go(0, 0), 1);
        due(x.lend(1, 1, 0), true);
        due(x.lay(0, 1, NONE), true);
        due(x.snap(1), 0);
        due(x.trial(1, true), 1);
        due(x.unsay(), 0);
        due(x.image(), 7);
        due(put(x, 0, 1, 21, 0, 40, 0), true);
        refused(x, 0, 0, 0, 1, 0, 0);
    }
}
