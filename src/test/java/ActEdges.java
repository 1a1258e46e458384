import java.util.Arrays;

/** Promises 12 to 19 with part II of the terms: the acts, what each asks for, and rows of told acts. */
final class ActEdges extends Edges {
    /**
     * Places inn 0, lane 1, mill 2; doors oak 0 and ash 1, boxes tin 2 and urn 3; keys kay 0 with pat, lob 1 with quin,
     * moe 2 in inn, nan 3 in tin; persons pat 0 and rue 2 at inn, quin 1 at lane.
     */
    private static final String BASE = "place inn;place lane;place mill;door oak inn lane 4;door ash lane mill 9;box tin at inn;"
            + "box urn at lane;key kay in inn;key lob in inn;key moe in inn;key nan in tin;person pat at inn;person quin at lane;"
            + "person rue at inn;has pat kay;has quin lob;";
    private static final int[] OUTSIDE = {-1, -2, LOW, HIGH, 10, 255};

    private ActEdges() {
    }

    static void all() {
        going();
        barred();
        noneSuch();
        opening();
        shutting();
        lending();
        taking();
        laying();
        breaking();
        tellingActs();
        tellingShut();
        toldAllStays();
    }

    private static StackKeys base(String more) {
        return town(BASE + more);
    }

    private static void going() {
        says(12, "ACTS of a PERSON: GO through a DOOR that is not SHUT and at which it is,");
        says(12, "GO: the PLACE to which it comes;");
        says(12, "One is AT a DOOR in either of its two PLACES, at a BOX in its PLACE.");
        StackKeys x = base("");
        due(x.go(0, 0), 1);
        due(x.person(0, 0), 1);
        due(x.go(0, 0), 0);
        due(x.go(0, 0), 1);
        due(x.go(0, 1), 2);
        due(x.go(0, 1), 1);
        due(x.person(1, 0), 1);
        due(x.status(2), 0);
        says(12, "NONE if it can't be.");
        due(x.go(0, 2), NONE);
        due(x.go(0, 3), NONE);
        due(x.go(2, 1), NONE);
        due(x.go(2, 2), NONE);
        due(x.go(2, 3), NONE);
        due(x.go(0, 1), 2);
        due(x.go(0, 0), NONE);
        due(x.person(0, 0), 2);
        due(x.status(2), 6);
        due(base("shut oak by kay;").go(0, 0), NONE);
        due(base("shut oak by lob;").go(0, 0), NONE);
        due(base("shut oak by nan;").go(0, 0), NONE);
        due(base("lost oak;").go(0, 0), NONE);
        due(base("shut ash by kay;lost urn;lost tin;").go(0, 0), 1);
        due(base("shut oak by kay;shut ash by kay;").go(0, 0), NONE);
        StackKeys y = base("shut oak by kay;shut oak by nan;");
        due(y.snap(3), 1);
        due(y.go(0, 0), NONE);
        due(y.open(0, 0), 0);
        due(y.go(0, 0), NONE);
    }

    private static void barred() {
        says(12, "and no BAR of which holds (as it is ahead of that): to its other PLACE.");
        due(base("bar oak when all;").go(0, 0), NONE);
        due(base("bar oak when not all;").go(0, 0), 1);
        due(base("bar ash when all;").go(0, 0), 1);
        due(base("bar oak when not all;bar oak when all;").go(0, 0), NONE);
        due(base("bar oak when all;bar oak when not all;").go(0, 0), NONE);
        due(base("bar oak when not all;bar ash when all;bar oak when not all;").go(0, 0), 1);
        StackKeys x = base("bar oak when spot=1;");
        due(x.go(0, 0), 1);
        due(x.go(0, 0), NONE);
        due(x.person(0, 0), 1);
        StackKeys y = base("bar oak when spot=0;");
        due(y.go(0, 0), NONE);
        due(y.go(1, 0), 0);
        StackKeys z = base("shut tin by kay;bar oak when closed=1 and keys=1;");
        due(z.go(0, 0), NONE);
        due(z.go(2, 0), 1);
        due(z.take(0, 2), true);
        due(z.go(0, 0), 1);
        due(z.go(0, 0), 0);
        due(z.lay(0, 2, NONE), true);
        due(z.go(0, 0), NONE);
        due(z.open(0, 0), 2);
        due(z.go(0, 0), 1);
        due(z.status(2), 2);
    }

    /** Persons, keys and doors that there are not. */
    private static void noneSuch() {
        StackKeys x = base("");
        String before = standing(x);
        int refused = 0;
        for (int no : OUTSIDE) {
            says(12, "NONE if it can't be.");
            due(x.go(no, 0), NONE);
            due(x.go(0, no), NONE);
            says(13, "NONE if it can't be.");
            due(x.open(no, 0), NONE);
            due(x.open(0, no), NONE);
            says(14, "NONE if it can't be.");
            due(x.shut(no, 0, 0), NONE);
            due(x.shut(0, no, 0), NONE);
            due(x.shut(0, 0, no), NONE);
            refused += 7;
            due(x.status(2), refused);
        }
        due(x.go(3, 0), NONE);
        due(x.go(0, 4), NONE);
        due(x.open(3, 0), NONE);
        due(x.open(0, 4), NONE);
        due(x.shut(3, 0, 0), NONE);
        due(x.shut(0, 4, 0), NONE);
        due(x.shut(0, 0, 4), NONE);
        due(x.status(2), refused + 7);
        refused = 0;
        for (int no : OUTSIDE) {
            says(15, "false if it can't be (also to itself).");
            due(x.lend(no, 0, 2), false);
            due(x.lend(0, no, 2), false);
            due(x.lend(0, 0, no), false);
            says(16, "false if it can't be.");
            due(x.take(no, 2), false);
            due(x.take(0, no), false);
            says(17, "false if it can't be.");
            due(x.lay(no, 0, NONE), false);
            due(x.lay(0, no, NONE), false);
            due(no == NONE || !x.lay(0, 0, no), true);
            says(18, "NONE if there is none such,");
            due(x.snap(no), NONE);
            refused += no == NONE ? 8 : 9;
            due(x.status(3), refused);
        }
        due(x.lend(3, 0, 2), false);
        due(x.lend(0, 4, 2), false);
        due(x.lend(0, 0, 3), false);
        due(x.take(3, 2), false);
        due(x.take(0, 4), false);
        due(x.lay(3, 0, NONE), false);
        due(x.lay(0, 4, NONE), false);
        due(x.lay(0, 0, 4), false);
        due(x.snap(4), NONE);
        due(x.status(3), refused + 9);
        due(standing(x), before);
    }

    private static void opening() {
        says(13, "OPEN with a KEY that it has its TOP, at which it is: the TOP leaves the ROW (others may still shut it).");
        says(13, "OPEN with a KEY: what was opened;");
        StackKeys x = base("shut urn by kay;shut oak by kay;shut oak by lob;shut tin by kay;shut oak by moe;");
        due(x.open(0, 0), 2);
        due(x.key(0, 1), 2);
        due(x.door(2, 4), 0);
        due(x.open(0, 0), 0);
        due(x.door(0, 4), 1);
        due(x.door(0, 5), 2);
        due(x.open(1, 1), 0);
        due(x.door(0, 4), 1);
        due(x.go(0, 0), NONE);
        due(x.take(0, 2), true);
        due(x.open(0, 2), 0);
        due(x.door(0, 4), 0);
        due(x.open(0, 0), NONE);
        due(x.go(0, 0), 1);
        due(x.open(0, 0), 3);
        due(x.key(0, 1), 0);
        says(13, "NONE if it can't be.");
        due(x.open(0, 0), NONE);
        due(x.status(2), 3);
        StackKeys y = base("shut oak by kay;shut ash by kay;shut oak by lob;shut tin by moe;shut tin by nan;");
        String before = standing(y);
        due(y.open(0, 0), NONE);
        due(y.open(0, 1), NONE);
        due(y.open(2, 0), NONE);
        due(y.open(0, 2), NONE);
        due(y.open(0, 3), NONE);
        due(y.open(1, 0), NONE);
        due(standing(y), before);
        due(y.status(2), 6);
        due(y.snap(1), 1);
        due(y.open(1, 1), NONE);
        StackKeys lost = base("shut tin by kay;lost tin;");
        due(lost.open(0, 0), 2);
        due(lost.door(2, 4), 1);
        due(lost.open(0, 0), NONE);
    }

    private static void shutting() {
        says(14, "SHUT with a KEY that it has a DOOR or BOX at which it is, and that is not in its ROW, which has fewer than 6: it "
                + "becomes the TOP (also if it is SHUT by others).");
        says(14, "SHUT: how many are in the ROW;");
        String more = "box ba at inn;box bb at inn;box bc at inn;door fir inn mill 1;box bd at inn;";
        StackKeys x = base(more + "lost bb;shut ba by lob;");
        int[] doors = {0, 2, 4, 5, 6, 7};
        for (int i = 0; i < 6; i++) {
            due(x.shut(0, 0, doors[i]), i + 1);
            due(x.key(0, 2), doors[i]);
            due(x.door(doors[i], 4), 1);
        }
        due(x.door(4, 5), 2);
        says(14, "NONE if it can't be.");
        String before = standing(x);
        due(x.shut(0, 0, 8), NONE);
        due(x.shut(0, 0, 0), NONE);
        due(x.shut(0, 0, 7), NONE);
        due(standing(x), before);
        due(x.open(0, 0), 7);
        due(x.shut(0, 0, 0), NONE);
        due(x.shut(0, 0, 6), NONE);
        due(x.shut(0, 0, 3), NONE);
        due(x.shut(0, 0, 1), NONE);
        due(x.shut(0, 0, 8), 6);
        due(x.status(2), 7);
        StackKeys y = base("shut oak by kay;");
        before = standing(y);
        due(y.shut(0, 0, 0), NONE);
        due(y.shut(0, 1, 0), NONE);
        due(y.shut(0, 2, 0), NONE);
        due(y.shut(0, 3, 2), NONE);
        due(y.shut(2, 0, 2), NONE);
        due(y.shut(1, 1, 2), NONE);
        due(standing(y), before);
        due(y.shut(1, 1, 0), 1);
        due(y.shut(1, 1, 1), 2);
        due(y.shut(1, 1, 3), 3);
        due(y.snap(0), 1);
        due(y.shut(0, 0, 2), NONE);
        due(y.status(2), 7);
    }

    private static void lending() {
        says(15, "LEND a KEY that it has to a PERSON in the same PLACE.");
        says(15, "LEND: true;");
        StackKeys x = base("shut tin by kay;");
        due(x.lend(0, 0, 2), true);
        due(x.key(0, 0), 2);
        due(x.person(0, 1), 0);
        due(x.person(2, 1), 1);
        due(x.key(0, 2), 2);
        due(x.open(0, 0), NONE);
        due(x.open(2, 0), 2);
        due(x.lend(2, 0, 0), true);
        says(15, "false if it can't be (also to itself).");
        String before = standing(x);
        due(x.lend(0, 0, 0), false);
        due(x.lend(0, 0, 1), false);
        due(x.lend(1, 1, 0), false);
        due(x.lend(1, 1, 1), false);
        due(x.lend(2, 0, 0), false);
        due(x.lend(0, 1, 2), false);
        due(x.lend(0, 2, 2), false);
        due(x.lend(0, 3, 2), false);
        due(standing(x), before);
        due(x.status(3), 8);
        due(x.go(0, 0), 1);
        due(x.lend(0, 0, 2), false);
        due(x.lend(0, 0, 1), true);
        due(x.lend(1, 1, 0), true);
        due(x.snap(1), 0);
        due(x.lend(0, 1, 1), false);
    }

    private static void taking() {
        says(16, "TAKE a KEY that lies in its PLACE, or in a BOX there that is not SHUT.");
        says(16, "TAKE: true;");
        says(16, "BEHIND a BOX lies what is in it.");
        StackKeys x = base("");
        due(x.take(0, 2), true);
        due(x.key(2, 0), 0);
        due(x.take(2, 3), true);
        due(x.key(3, 0), 2);
        says(16, "false if it can't be.");
        due(x.take(0, 2), false);
        due(x.take(0, 3), false);
        due(x.take(0, 0), false);
        due(x.take(0, 1), false);
        due(x.take(1, 1), false);
        due(x.lay(0, 2, NONE), true);
        due(x.take(1, 2), false);
        due(x.lay(2, 3, 2), true);
        due(x.take(1, 3), false);
        due(x.snap(3), 0);
        due(x.take(0, 3), false);
        due(x.status(3), 8);
        StackKeys y = base("shut tin by kay;");
        due(y.take(0, 3), false);
        due(y.open(0, 0), 2);
        due(y.take(0, 3), true);
        due(base("lost tin;").take(0, 3), false);
        due(base("shut tin by nan;").take(0, 3), false);
        due(base("shut urn by kay;lost oak;").take(0, 3), true);
        due(base("shut tin by lob;").take(2, 2), true);
    }

    private static void laying() {
        says(17, "LAY a KEY that it has in its PLACE, or in a BOX there that is not SHUT.");
        says(17, "LAY in a BOX, or (NONE) in its PLACE: true;");
        StackKeys x = base("");
        due(x.lay(0, 0, NONE), true);
        due(x.key(0, 0), 10);
        due(x.take(2, 0), true);
        due(x.lay(2, 0, 2), true);
        due(x.key(0, 0), 22);
        due(x.lay(1, 1, 3), true);
        due(x.key(1, 0), 23);
        due(x.take(1, 1), true);
        due(x.go(1, 1), 2);
        due(x.lay(1, 1, NONE), true);
        due(x.key(1, 0), 12);
        says(17, "false if it can't be.");
        due(x.lay(1, 1, NONE), false);
        due(x.take(0, 0), true);
        due(x.lay(0, 0, 3), false);
        due(x.lay(0, 0, 0), false);
        due(x.lay(0, 0, 1), false);
        due(x.lay(2, 0, NONE), false);
        due(x.lay(0, 2, NONE), false);
        due(x.lay(0, 2, 2), false);
        due(x.lay(0, 0, -2), false);
        due(x.status(3), 8);
        due(x.shut(0, 0, 2), 1);
        due(x.lay(0, 0, 2), false);
        due(x.lay(0, 0, NONE), true);
        due(base("lost tin;").lay(0, 0, 2), false);
        due(base("shut tin by moe;").lay(0, 0, 2), false);
        due(base("shut urn by kay;lost oak;").lay(0, 0, 2), true);
        StackKeys y = base("shut urn by kay;");
        due(y.lay(0, 0, 2), true);
        due(y.key(0, 1), 1);
        due(y.snap(0), 1);
        due(y.lay(0, 0, NONE), false);
    }

    private static void breaking() {
        says(18, "A KEY breaks: it is nowhere any more, its ROW stays as it is.");
        says(18, "A KEY breaks: how many are in its ROW;");
        StackKeys x = base("shut urn by kay;shut oak by kay;shut tin by lob;");
        due(x.snap(0), 2);
        due(x.key(0, 0), 40);
        due(x.in(0, 0), 3);
        due(x.in(0, 1), 0);
        due(x.person(0, 1), 0);
        due(x.has(8), 3);
        due(x.open(0, 0), NONE);
        due(x.snap(3), 0);
        due(x.key(3, 0), 40);
        due(x.snap(2), 0);
        due(x.take(0, 2), false);
        says(18, "NONE if there is none such, or it is broken already.");
        due(x.snap(0), NONE);
        due(x.snap(3), NONE);
        due(x.snap(4), NONE);
        due(x.snap(-1), NONE);
        due(x.status(3), 5);
        due(x.snap(1), 1);
        due(x.snap(1), NONE);
        due(x.has(9), 3);
    }

    private static void tellingActs() {
        says(19, "Told ACTS, the tape (it goes), three bytes each (a PERSON; 0 GO, 1 OPEN, 2 SHUT; the DOOR or BOX, of OPEN the "
                + "KEY;");
        StackKeys x = base("shut oak by kay;");
        due(told(x, 0, 1, 0, 0, 0, 0, 0, 2, 1, 1, 0, 0, 1, 2, 2), NONE);
        due(x.end(1), false);
        says(19, "the first, from 0 on, that can't be, or is not whole; NONE if all can.");
        due(told(x), NONE);
        due(told(x, 0), 0);
        due(told(x, 0, 1), 0);
        due(told(x, 0, 1, 0), NONE);
        due(told(x, 0, 1, 0, 0), 1);
        due(told(x, 0, 1, 0, 0, 0), 1);
        due(told(x, 0, 1, 0, 0, 0, 0), NONE);
        due(told(x, 0, 0, 0), 0);
        due(told(x, 0, 1, 0, 0, 1, 0), 1);
        due(told(x, 0, 1, 0, 0, 0, 0, 0, 0, 2, 9, 9, 9), 2);
        due(told(x, 0, 0, 0, 9), 0);
        for (int kind = 3; kind < 256; kind += 63) {
            due(told(x, 0, kind, 0), 0);
        }
        due(told(x, 2, 1, 0), 0);
        due(told(x, 3, 1, 0), 0);
        due(told(x, 255, 1, 0), 0);
        due(told(x, 1, 0, 1), NONE);
        due(told(x, 1, 0, 3), 0);
        due(told(x, 1, 0, 4), 0);
        due(told(x, 1, 0, 255), 0);
        due(told(x, 0, 1, 1), 0);
        due(told(x, 0, 1, 4), 0);
        due(told(x, 0, 1, 255), 0);
        due(told(x, 0, 2, 4), 0);
        due(told(x, 0, 2, 255), 0);
        due(told(x, 0, 2, 3), 0);
        due(x.status(2), 0);
        StackKeys y = base("");
        int[] toAndFro = new int[1599];
        due(told(y, toAndFro), NONE);
        due(told(y, Arrays.copyOf(toAndFro, 1600)), 533);
        toAndFro[1598] = 1;
        due(told(y, toAndFro), 532);
        toAndFro[1595] = 1;
        due(told(y, toAndFro), NONE);
    }

    private static void tellingShut() {
        says(19, "SHUT is by the first KEY, by numbers, that it has and in whose ROW it is not, if that has fewer than 6):");
        String more = "box ba at inn;box bb at inn;box bc at inn;box bd at inn;";
        StackKeys x = base("has pat moe;has pat nan;");
        due(told(x, 0, 2, 0, 0, 1, 0), NONE);
        due(told(x, 0, 2, 0, 0, 1, 2), 1);
        due(told(x, 0, 2, 0, 0, 2, 0, 0, 1, 2, 0, 1, 0), NONE);
        due(told(x, 0, 2, 0, 0, 2, 0, 0, 2, 0, 0, 1, 3, 0, 1, 2, 0, 1, 0), NONE);
        due(told(x, 0, 2, 0, 0, 2, 0, 0, 2, 0, 0, 2, 0), 3);
        due(told(x, 0, 2, 1), 0);
        due(told(x, 2, 2, 0), 0);
        due(told(x, 1, 2, 0, 1, 1, 1), NONE);
        StackKeys five = base(more + "has pat moe;shut ba by kay;shut bb by kay;shut bc by kay;shut bd by kay;shut tin by kay;");
        due(told(five, 0, 2, 0, 0, 1, 0), NONE);
        due(told(five, 0, 2, 4, 0, 1, 2), NONE);
        due(told(five, 0, 2, 0, 0, 2, 0, 0, 1, 2), NONE);
        StackKeys six = base(more + "has pat moe;shut ba by kay;shut bb by kay;shut bc by kay;shut bd by kay;shut tin by kay;"
                + "shut urn by kay;");
        due(told(six, 0, 2, 0), 0);
        due(told(six, 0, 2, 2, 0, 1, 2), NONE);
        due(six.shut(0, 2, 0), 1);
    }

    private static void toldAllStays() {
        says(19, "All stays as it is.");
        StackKeys x = base("shut oak by kay;");
        String before = standing(x);
        due(x.image(), 13);
        due(told(x, 0, 1, 0, 0, 0, 0, 0, 2, 3, 1, 2, 1, 0, 0, 1), 4);
        due(standing(x), before);
        due(told(x, 0, 1, 0, 0, 0, 0, 0, 2, 3), NONE);
        due(standing(x), before);
        due(x.person(0, 0), 0);
        due(x.door(3, 4), 0);
        due(x.octet(3), 0);
        due(x.status(2), 0);
        due(x.end(0), true);
        due(x.end(1), false);
    }
}
