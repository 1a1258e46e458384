/** Promises 25 to 29 with part III of the terms: who can open what together, and doors that must be shut by hours. */
final class TogetherEdges extends Edges {
    /** Places a, b; door d 0, boxes e 1 to h 4; keys k 0, m 1, n 2, o 3; persons p 0 and q 1 at a, r 2 at b. */
    private static final String BASE = "place a;place b;door d a b 1;box e at a;box f at b;box g at a;box h at b;"
            + "key k in a;key m in a;key n in b;key o in e;person p at a;person q at a;person r at b;";
    private static final int[] OUTSIDE = {-1, -2, LOW, HIGH, 10, 32, 255};

    private TogetherEdges() {
    }

    static void all() {
        together();
        sets();
        fewestPersons();
        work();
        crossing();
        crossingOfOneDoor();
        firstCrossing();
        fewest();
        fewestOfAll();
        order();
    }

    private static StackKeys base(String more) {
        return town(BASE + more);
    }

    private static void together() {
        says(25, "OPENED TOGETHER, not asking where they are: a set of PERSONS can open a DOOR or BOX, if it is not lost, and each "
                + "KEY in whose ROW it is is with one of them;");
        says(25, "Whether a set of PERSONS (bits) can open a DOOR or BOX TOGETHER: 1, 0;");
        StackKeys x = base("has p k;has q m;has r n;shut d by k;shut d by m;shut d by n;shut e by k;shut f by m;shut f by o;"
                + "shut g by n;lost g;");
        int[] needed = {7, 1, NONE, NONE, 0};
        for (int door = 0; door < 5; door++) {
            for (int set = 0; set < 8; set++) {
                due(x.can(set, door), needed[door] != NONE && (set & needed[door]) == needed[door] ? 1 : 0);
            }
        }
        due(x.can(4, 0), 0);
        StackKeys broken = base("has p k;shut d by k;");
        due(broken.can(1, 0), 1);
        due(broken.snap(0), 1);
        due(broken.can(1, 0), 0);
        due(broken.can(7, 0), 0);
        StackKeys laid = base("has p k;shut e by k;");
        due(laid.can(1, 1), 1);
        due(laid.lay(0, 0, NONE), true);
        due(laid.can(7, 1), 0);
        due(laid.take(1, 0), true);
        due(laid.can(1, 1), 0);
        due(laid.can(2, 1), 1);
        due(base("lost d;").can(7, 0), 0);
    }

    private static void sets() {
        says(25, "NONE if there are none such.");
        StackKeys x = base("");
        due(x.can(0, 0), 1);
        due(x.can(7, 0), 1);
        due(x.can(8, 0), NONE);
        due(x.can(9, 0), NONE);
        due(x.can(15, 0), NONE);
        due(x.can(7, 4), 1);
        due(x.can(7, 5), NONE);
        due(x.can(0, 5), NONE);
        for (int no : OUTSIDE) {
            due(x.can(no, 0), NONE);
            due(x.can(1, no), NONE);
        }
        StackKeys one = town("place a;box e at a;person p at a;");
        due(one.can(1, 0), 1);
        due(one.can(2, 0), NONE);
        due(one.can(3, 0), NONE);
        StackKeys nobody = town("place a;box e at a;");
        due(nobody.can(0, 0), 1);
        due(nobody.can(1, 0), NONE);
    }

    private static void fewestPersons() {
        says(26, "The fewest PERSONS who can TOGETHER (what 0),");
        StackKeys x = base("has p k;has q m;has r n;shut d by k;shut d by m;shut d by n;shut e by k;shut g by k;shut g by n;");
        int[] due = {3, 1, 0, 2, 0};
        for (int door = 0; door < 5; door++) {
            due(x.needs(door, 0), due[door]);
        }
        due(base("has p k;has p m;has p n;has p o;shut d by k;shut d by m;shut d by n;shut d by o;").needs(0, 0), 1);
        due(base("has p k;has p m;has r n;has r o;shut d by k;shut d by m;shut d by n;shut d by o;").needs(0, 0), 2);
        says(26, "NONE if all can't, there is none such, or for others.");
        due(base("shut d by k;").needs(0, 0), NONE);
        due(base("shut d by k;").needs(0, 1), NONE);
        due(base("has p k;shut d by k;shut d by m;").needs(0, 0), NONE);
        due(base("has p k;shut d by k;shut d by m;").needs(0, 1), NONE);
        due(base("has p k;shut d by k;lost d;").needs(0, 0), NONE);
        due(base("has p k;shut d by k;lost d;").needs(0, 1), NONE);
        due(base("lost d;").needs(0, 1), NONE);
        due(x.snap(2), 2);
        due(x.needs(0, 0), NONE);
        due(x.needs(3, 1), NONE);
        due(x.needs(1, 0), 1);
        due(x.needs(0, 2), NONE);
        due(x.needs(1, 2), NONE);
        due(x.needs(1, -1), NONE);
        due(x.needs(1, LOW), NONE);
        due(x.needs(1, HIGH), NONE);
        due(x.needs(4, 0), 0);
        due(x.needs(5, 0), NONE);
        due(x.needs(5, 1), NONE);
        for (int no : OUTSIDE) {
            due(x.needs(no, 0), NONE);
            due(x.needs(no, 1), NONE);
        }
    }

    private static void work() {
        says(26, "THE WORK: all that stands in these ROWS from it to the TOP, together.");
        says(26, "THE WORK (1);");
        StackKeys x = base("has p k;has q m;shut d by k;shut e by k;shut f by k;shut f by m;shut d by m;");
        due(x.needs(0, 1), 4);
        due(x.needs(1, 1), 2);
        due(x.needs(2, 1), 3);
        due(x.needs(3, 1), 0);
        due(x.needs(2, 0), 2);
        StackKeys six = town("place a;box b at a;box c at a;box d at a;box e at a;box f at a;box g at a;key k in a;person p at a;"
                + "has p k;shut b by k;shut c by k;shut d by k;shut e by k;shut f by k;shut g by k;");
        for (int box = 0; box < 6; box++) {
            due(six.needs(box, 1), 6 - box);
        }
        due(six.open(0, 0), 5);
        due(six.needs(0, 1), 5);
        due(six.needs(5, 1), 0);
    }

    private static StackKeys musts(String... told) {
        StringBuilder text = new StringBuilder("place a;box d at a;box e at a;box f at a;box g at a;box h at a;box i at a;");
        for (String must : told) {
            text.append("must ").append(must).append(';');
        }
        return town(text.toString());
    }

    /** Whether just these two cross, told in either order. */
    private static void crossed(String one, String other, boolean due) {
        StackKeys x = musts(one, other);
        StackKeys y = musts(other, one);
        due(x.cross(0), due ? 0 : NONE);
        due(x.cross(1), due ? 1 : NONE);
        due(y.cross(0), due ? 0 : NONE);
        due(y.cross(1), due ? 1 : NONE);
        due(x.fewest(NONE), due ? 2 : 1);
        due(y.fewest(NONE), due ? 2 : 1);
        due(x.fewest(1), due ? 1 : 0);
    }

    private static void crossing() {
        says(27, "MUSTS CROSS, if one begins ahead of the other one, that then begins ahead of the first one's end, and ends behind it "
                + "(begins and ends of one minute do not cross);");
        for (int begin = 0; begin < 8; begin++) {
            for (int end = begin; end < 9; end++) {
                boolean later = 2 < begin && begin < 5 && 5 < end;
                boolean earlier = begin < 2 && 2 < end && end < 5;
                crossed("d 2 5", "e " + begin + " " + end, later || earlier);
            }
        }
        crossed("d 0 1438", "e 1437 1439", true);
        crossed("d 0 1438", "e 1438 1439", false);
        crossed("d 0 1438", "e 1437 1438", false);
        crossed("d 0 1439", "e 1 1439", false);
        crossed("d 0 1439", "e 0 0", false);
        crossed("d 0 1439", "e 1439 1439", false);
    }

    private static void crossingOfOneDoor() {
        says(27, "or if both are of one DOOR or BOX, and each begins ahead of the other one's end.");
        for (int begin = 0; begin < 8; begin++) {
            for (int end = begin; end < 9; end++) {
                crossed("d 2 5", "d " + begin + " " + end, begin < 5 && 2 < end);
            }
        }
        crossed("d 5 5", "d 5 5", false);
        crossed("d 5 5", "d 5 6", false);
        crossed("d 5 5", "d 4 5", false);
        crossed("d 5 5", "d 4 6", true);
        crossed("d 0 1439", "d 0 1439", true);
        crossed("d 0 1439", "d 1438 1439", true);
        crossed("d 0 1439", "d 1439 1439", false);
        says(27, "(Each is shut and opened at just its minutes, by a KEY with nothing else in its ROW; whether one could be there is not "
                + "asked: so ONE KEY can do all MUSTS just if no two CROSS.)");
        StackKeys x = town("place a;place b;box d at a;box e at b;door c a b 9;lost d;lost c;must d 0 9;must e 3 4;must c 9 9;");
        due(x.cross(0), NONE);
        due(x.fewest(NONE), 1);
    }

    private static void firstCrossing() {
        says(27, "The first MUST, by numbers, that CROSSES another one (what 0), the first that it CROSSES (1);");
        StackKeys x = musts("d 0 1", "e 20 30", "f 2 9", "g 40 50", "h 25 60", "i 22 33");
        due(x.cross(0), 1);
        due(x.cross(1), 4);
        StackKeys y = musts("d 0 1", "e 40 50", "f 2 9", "g 5 12", "h 1 3", "i 45 60");
        due(y.cross(0), 1);
        due(y.cross(1), 5);
        StackKeys z = musts("d 0 1", "e 2 3", "f 4 5", "g 6 7", "h 10 20", "i 15 25");
        due(z.cross(0), 4);
        due(z.cross(1), 5);
        StackKeys all = musts("d 0 10", "e 1 11", "f 2 12", "g 3 13", "h 4 14", "i 5 15");
        due(all.cross(0), 0);
        due(all.cross(1), 1);
        says(27, "NONE if ONE KEY can do all, or for others.");
        for (int what : new int[] {2, -1, -2, LOW, HIGH}) {
            due(x.cross(what), NONE);
        }
        StackKeys one = musts("d 0 9", "e 1 8", "f 2 3", "g 3 8", "h 9 9", "i 0 0");
        due(one.cross(0), NONE);
        due(one.cross(1), NONE);
        due(one.cross(2), NONE);
        due(musts().cross(0), NONE);
        due(musts().cross(1), NONE);
        due(musts("d 0 9").cross(0), NONE);
        due(musts("d 0 9").cross(1), NONE);
    }

    private static void given(StackKeys x, int... keys) {
        int most = 0;
        for (int k = 0; k < keys.length; k++) {
            due(x.fewest(k), keys[k]);
            most = Math.max(most, keys[k] + 1);
        }
        due(x.fewest(NONE), most);
    }

    private static void fewest() {
        says(28, "THE FEWEST KEYS (k NONE; 0 without MUSTS), or the KEY of MUST k;");
        given(musts());
        given(musts("d 0 9"), 0);
        given(musts("d 0 9", "e 9 12"), 0, 0);
        given(musts("d 0 9", "e 8 12"), 0, 1);
        given(musts("d 0 9", "e 8 12", "f 0 9"), 0, 1, 0);
        given(musts("d 0 10", "e 1 11", "f 2 12", "g 3 13", "h 4 14", "i 5 15"), 0, 1, 2, 3, 4, 5);
        given(musts("d 0 9", "d 0 9", "d 0 9", "d 0 9", "d 0 9", "d 0 9"), 0, 1, 2, 3, 4, 5);
        given(musts("d 0 9", "d 0 9", "d 0 9", "d 0 9", "d 0 9", "d 9 9"), 0, 1, 2, 3, 4, 0);
        given(musts("d 5 5", "d 5 5", "d 5 5", "d 5 5", "d 5 5", "d 5 5"), 0, 0, 0, 0, 0, 0);
        says(28, "NONE if there is none such.");
        StackKeys x = musts("d 0 9", "e 5 12");
        due(x.fewest(1), 1);
        due(x.fewest(2), NONE);
        due(x.fewest(-2), NONE);
        due(x.fewest(LOW), NONE);
        due(x.fewest(HIGH), NONE);
        due(musts().fewest(0), NONE);
        due(musts("d 0 9", "d 0 9", "d 0 9", "d 0 9", "d 0 9", "d 0 9").fewest(6), NONE);
    }

    private static void fewestOfAll() {
        says(28, "THE FEWEST KEYS: the least number n with which each MUST has one of n KEYS, no two of one KEY CROSSING; of all such "
                + "the first: MUST by MUST, by numbers, the least number of a KEY.");
        given(musts("d 0 4", "e 8 12", "f 3 6", "g 5 9"), 0, 1, 1, 0);
        given(musts("d 0 4", "e 5 9", "f 3 6", "g 8 12"), 0, 0, 1, 1);
        given(musts("d 10 20", "e 30 40", "f 15 35", "g 18 25"), 0, 0, 1, 1);
        given(musts("d 10 20", "e 30 40", "f 15 35", "g 18 38"), 0, 0, 1, 2);
        given(musts("d 0 4", "e 20 24", "f 3 8", "g 7 22"), 0, 1, 1, 0);
        given(musts("d 0 4", "e 20 24", "f 3 8", "g 7 13", "h 12 22"), 0, 0, 1, 0, 1);
        given(musts("d 0 4", "e 20 24", "f 3 8", "g 7 22", "h 1 2"), 0, 1, 1, 0, 0);
    }

    private static void order() {
        says(29, "THE ORDER of lockings: MUSTS by their begins, of like ones by their ends, the latest first, then by numbers.");
        says(29, "THE ORDER: the k-th MUST, from 0 on;");
        StackKeys x = musts("d 5 9", "e 0 3", "f 5 12", "g 5 9", "h 0 3", "i 4 1439");
        int[] want = {1, 4, 5, 2, 0, 3};
        for (int k = 0; k < 6; k++) {
            due(x.order(k), want[k]);
        }
        StackKeys y = musts("d 1439 1439", "e 0 0", "f 0 1", "g 0 1439", "h 1 1", "i 0 0");
        want = new int[] {3, 2, 1, 5, 4, 0};
        for (int k = 0; k < 6; k++) {
            due(y.order(k), want[k]);
        }
        says(29, "NONE if there is none such.");
        due(x.order(6), NONE);
        due(x.order(-1), NONE);
        due(x.order(-2), NONE);
        due(x.order(LOW), NONE);
        due(x.order(HIGH), NONE);
        due(musts("d 0 9").order(0), 0);
        due(musts("d 0 9").order(1), NONE);
        due(musts().order(0), NONE);
    }
}
