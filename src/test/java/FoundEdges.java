/** Promises 30 to 34 with part III of the terms: a key that was found, and a watch's round. */
final class FoundEdges extends Edges {
    private static final int[] OUTSIDE = {-1, -2, LOW, HIGH, 10, 32, 255};

    private FoundEdges() {
    }

    static void all() {
        rows();
        rowsInOrder();
        trials();
        twenty();
        fits();
        would();
        unsay();
        rounds();
        roundsNone();
    }

    /** Boxes a 0 to j 9, of which those named are lost. */
    private static StackKeys losses(String lost) {
        StringBuilder text = new StringBuilder("place p;");
        for (char c = 'a'; c < 'k'; c++) {
            text.append("box ").append(c).append(" at p;");
        }
        for (char c : lost.toCharArray()) {
            text.append("lost ").append(c).append(';');
        }
        return town(text.toString());
    }

    private static void rows() {
        says(30, "A KEY was FOUND: its ROW is one of all rows of 0 to 3 unlike DOORS and BOXES that are lost.");
        String all = "abcdefghij";
        int[] counts = {1, 2, 5, 16, 41, 86, 157, 260, 401, 586, 821};
        for (int n = 0; n <= 10; n++) {
            due(losses(all.substring(0, n)).fits(NONE), counts[n]);
            due(losses(all.substring(10 - n)).fits(NONE), counts[n]);
        }
        StackKeys x = losses("abcd");
        due(x.trial(0, true), 16 - 6);
        due(x.trial(1, true), 3);
        due(x.trial(2, true), 1);
        due(x.trial(3, true), 0);
        StackKeys door = town("place p;place q;door d p q 1;box e at p;door f p q 1;lost d;lost e;key k in p;shut f by k;");
        due(door.fits(NONE), 5);
        due(door.trial(0, true), 2);
    }

    private static void rowsInOrder() {
        says(31, "Those rows FIT that agree with all trials, one after the other; in order by how many they have, then by the numbers of "
                + "their DOORS from the first one on.");
        StackKeys x = losses("bdj");
        first(x, 16);
        due(x.trial(9, true), 5);
        first(x, 5, 9);
        due(x.trial(9, false), 5);
        due(x.trial(1, false), 3);
        first(x, 3, 9);
        due(x.trial(3, true), 2);
        first(x, 2, 3, 9);
        due(x.trial(1, true), 1);
        first(x, 1, 1, 3, 9);
        StackKeys y = losses("bdj");
        due(y.trial(1, false), 11);
        due(y.trial(3, false), 6);
        due(y.trial(9, false), 1);
        first(y, 1);
        StackKeys z = losses("bdj");
        for (int i = 0; i < 3; i++) {
            z.trial(new int[] {1, 9, 3}[i], true);
        }
        first(z, 1, 3, 9, 1);
        StackKeys two = losses("abcd");
        due(two.trial(3, true), 10);
        due(two.trial(2, false), 7);
        due(two.trial(0, false), 4);
        due(two.trial(1, true), 3);
        first(two, 3, 1, 3);
        due(two.trial(0, false), 2);
        first(two, 2, 1, 3);
        due(two.trial(2, true), 1);
        first(two, 1, 2, 1, 3);
        StackKeys three = losses("abcd");
        due(three.trial(3, true), 10);
        due(three.trial(2, true), 3);
        due(three.trial(0, false), 2);
        due(three.trial(1, true), 1);
        first(three, 1, 1, 2, 3);
    }

    /** So many fit, and the first of them is this row. */
    private static void first(StackKeys x, int fitting, int... row) {
        due(x.fits(NONE), fitting);
        for (int k = 0; k < 3; k++) {
            due(x.fits(k), k < row.length ? row[k] : NONE);
        }
    }

    private static void trials() {
        says(30, "TRIED at a DOOR or BOX: it opened (that was its TOP, which leaves), or not.");
        says(30, "A trial: how many rows FIT;");
        StackKeys x = losses("ab");
        due(x.trial(0, false), 3);
        due(x.trial(0, false), 3);
        due(x.trial(0, true), 0);
        due(x.trial(0, false), 0);
        StackKeys y = losses("ab");
        due(y.trial(0, true), 2);
        due(y.trial(0, true), 0);
        StackKeys z = losses("ab");
        due(z.trial(2, true), 0);
        due(z.unsay(), 0);
        due(z.trial(2, false), 5);
        due(z.trial(9, false), 5);
        due(z.door(0, 4), 1);
        StackKeys none = losses("");
        due(none.trial(0, false), 1);
        due(none.trial(0, true), 0);
        says(30, "NONE, doing nothing, if there is no such DOOR or BOX,");
        StackKeys few = town("place p;box a at p;lost a;");
        for (int no : new int[] {1, -1, -2, LOW, HIGH, 10, 255}) {
            due(few.trial(no, true), NONE);
            due(few.trial(no, false), NONE);
        }
        due(few.fits(NONE), 2);
        due(few.status(4), 14);
        due(few.unsay(), NONE);
        due(few.trial(0, true), 1);
        due(few.trial(1, false), NONE);
        due(few.unsay(), 0);
        due(losses("").trial(9, false), 1);
        due(losses("").trial(10, false), NONE);
        due(new StackKeys().trial(0, false), NONE);
    }

    private static void twenty() {
        says(30, "or there were 20.");
        StackKeys x = losses("ab");
        for (int i = 1; i < 20; i++) {
            due(x.trial(0, false), 3);
        }
        due(x.trial(1, true), 2);
        due(x.trial(0, false), NONE);
        due(x.trial(1, true), NONE);
        due(x.trial(9, true), NONE);
        due(x.status(4), 3);
        due(x.fits(NONE), 2);
        due(x.unsay(), 19);
        due(x.fits(NONE), 3);
        due(x.trial(1, false), 1);
        due(x.trial(1, false), NONE);
        for (int left = 19; left >= 0; left--) {
            due(x.unsay(), left);
        }
        due(x.unsay(), NONE);
        due(x.fits(NONE), 5);
    }

    private static void fits() {
        says(31, "How many rows FIT (k NONE), or of the first of these: what stood at place k (NONE behind it, or if none FITS).");
        StackKeys x = losses("abc");
        first(x, 16);
        x.trial(2, true);
        first(x, 5, 2);
        x.trial(1, true);
        first(x, 2, 1, 2);
        x.trial(0, true);
        first(x, 1, 0, 1, 2);
        for (int no : new int[] {3, 4, -2, LOW, HIGH}) {
            due(x.fits(no), NONE);
        }
        x.trial(0, true);
        first(x, 0);
        x.unsay();
        first(x, 1, 0, 1, 2);
        due(x.status(4), 0);
    }

    private static void would() {
        says(32, "Whether the KEY that was FOUND would open a DOOR or BOX now: in how many of the rows that FIT;");
        StackKeys x = losses("abc");
        asked(x, 5, 5, 5, 0);
        x.trial(0, false);
        asked(x, 0, 5, 5, 0);
        x.trial(2, true);
        asked(x, 2, 2, 0, 0);
        x.trial(1, true);
        asked(x, 1, 0, 0, 0);
        x.trial(0, true);
        asked(x, 0, 0, 0, 0);
        due(x.fits(NONE), 1);
        x.unsay();
        asked(x, 1, 0, 0, 0);
        x.trial(1, true);
        due(x.fits(NONE), 0);
        asked(x, 0, 0, 0, 0);
        says(32, "NONE if there is none such.");
        StackKeys few = town("place p;box a at p;lost a;");
        due(few.would(0), 1);
        due(few.would(1), NONE);
        for (int no : OUTSIDE) {
            due(few.would(no), NONE);
        }
        due(losses("j").would(9), 1);
        due(losses("j").would(10), NONE);
        due(few.status(4), 0);
    }

    private static void asked(StackKeys x, int... due) {
        for (int d = 0; d < due.length; d++) {
            due(x.would(d), due[d]);
        }
    }

    private static void unsay() {
        says(33, "The latest trial was none: how many there are;");
        StackKeys x = losses("ab");
        x.trial(0, false);
        x.trial(1, true);
        x.trial(0, true);
        due(x.fits(NONE), 1);
        due(x.unsay(), 2);
        due(x.fits(NONE), 2);
        due(x.unsay(), 1);
        due(x.fits(NONE), 3);
        due(x.unsay(), 0);
        due(x.fits(NONE), 5);
        says(33, "NONE without one.");
        due(x.unsay(), NONE);
        due(x.unsay(), NONE);
        due(x.status(4), 2);
        due(x.trial(0, true), 2);
        due(x.unsay(), 0);
        due(new StackKeys().unsay(), NONE);
    }

    /** Places a 0 to h 7 in a row, each 99 minutes from the next; boxes x 7 at a; persons p 0 at a, q 1 at d. */
    private static final String LINE = "place a;place b;place c;place d;place e;place f;place g;place h;door ab a b 99;"
            + "door bc b c 99;door cd c d 99;door de d e 99;door ef e f 99;door fg f g 99;door gh g h 99;box x at a;"
            + "person p at a;person q at d;key k in a;";

    private static void rounds() {
        says(34, "A ROUND of a PERSON through a set of PLACES (bits): the fewest minutes to come through them all, from where it is and "
                + "back, by DOORS that are not SHUT (no BAR is asked).");
        says(34, "A ROUND through these PLACES (bits; others than there are count for nothing): minutes;");
        StackKeys x = town(LINE);
        for (int place = 0; place < 8; place++) {
            due(x.round(0, 1 << place), 198 * place);
            due(x.round(1, 1 << place), 198 * Math.abs(3 - place));
        }
        due(x.round(0, 255), 1386);
        due(x.round(1, 255), 1386);
        due(x.round(1, 0x81), 1386);
        due(x.round(1, 0), 0);
        due(x.round(0, 0), 0);
        due(x.round(0, 1), 0);
        due(x.round(0, 256), 0);
        due(x.round(0, 0x102), 198);
        due(x.round(0, -1), 1386);
        due(x.round(0, -256), 0);
        due(x.round(0, LOW), 0);
        due(x.round(0, HIGH), 1386);
        StackKeys ring = town(LINE + "door ah a h 1;");
        due(ring.round(0, 128), 2);
        due(ring.round(0, 255), 694);
        due(ring.round(0, 0x88), 596);
        StackKeys both = town(LINE + "door two a b 98;bar two when all;bar ab when all;");
        due(both.round(0, 2), 196);
        StackKeys few = town("place a;place b;door d a b 1;person p at a;");
        due(few.round(0, 2), 2);
        due(few.round(0, 3), 2);
        due(few.round(0, 4), 0);
        due(few.round(0, 6), 2);
        due(few.round(0, ~3), 0);
    }

    private static void roundsNone() {
        says(34, "NONE if it can't be, or there is no such PERSON.");
        StackKeys x = town(LINE + "lost cd;shut ef by k;has p k;");
        due(x.round(0, 4), 396);
        due(x.round(0, 8), NONE);
        due(x.round(0, 12), NONE);
        due(x.round(1, 16), 198);
        due(x.round(1, 32), NONE);
        due(x.round(1, 1), NONE);
        due(x.round(1, 24), 198);
        due(x.round(2, 0), NONE);
        for (int no : OUTSIDE) {
            due(x.round(no, 0), NONE);
            due(x.round(no, 1), NONE);
        }
        StackKeys open = town(LINE + "shut ab by k;has p k;");
        due(open.round(0, 2), NONE);
        due(open.open(0, 0), 0);
        due(open.round(0, 2), 198);
        due(open.go(0, 0), 1);
        due(open.round(0, 1), 198);
        due(open.round(0, 2), 0);
        due(town("place a;place b;box x at a;person p at a;").round(0, 2), NONE);
        due(town("place a;place b;box x at a;person p at a;").round(0, 1), 0);
    }
}
