/** Promises 1 to 3: a new object, and the tape. */
final class TapeEdges extends Edges {
    private static final int BLANKS = 0x20202020;
    private static final int PLAC = 0x706c6163;

    private TapeEdges() {
    }

    static void all() {
        newObject();
        feeding();
        fullTape();
        ending();
        lastCall();
    }

    private static void newObject() {
        says(1, "No PLACES, no KEYS.");
        StackKeys x = new StackKeys();
        for (int what = 0; what < 10; what++) {
            due(x.has(what), 0);
        }
        for (int kind = 0; kind < 5; kind++) {
            due(x.letter(kind, 0, 0), NONE);
        }
        due(x.door(0, 0), NONE);
        due(x.key(0, 0), NONE);
        due(x.in(0, 0), NONE);
        due(x.person(0, 0), NONE);
        due(x.go(0, 0), NONE);
        due(x.open(0, 0), NONE);
        due(x.shut(0, 0, 0), NONE);
        due(x.lend(0, 0, 1), false);
        due(x.take(0, 0), false);
        due(x.lay(0, 0, NONE), false);
        due(x.snap(0), NONE);
        due(x.row(), NONE);
        due(x.reach(0, 0), NONE);
        due(x.opens(0, 0), NONE);
        due(x.errands(0), NONE);
        due(x.lent(0, 0, 0), NONE);
        due(x.locked(), 0);
        due(x.can(0, 0), NONE);
        due(x.needs(0, 0), NONE);
        due(x.cross(0), NONE);
        due(x.fewest(NONE), 0);
        due(x.order(0), NONE);
        due(x.trial(0, false), NONE);
        due(x.fits(NONE), 1);
        due(x.fits(0), NONE);
        due(x.would(0), NONE);
        due(x.unsay(), NONE);
        due(x.round(0, 0), NONE);
        due(x.octet(0), NONE);
        due(x.image(), 1);
        due(x.octet(0), 19);
        due(x.octet(1), NONE);
        due(x.fault(0), 0);
        due(x.fault(1), NONE);
        due(x.end(1), false);
        says(1, "`NONE = -1`: None; refused.");
        due(StackKeys.NONE, -1);
    }

    private static void feeding() {
        says(2, "Twenty bytes come behind those on the tape, of each number the highest first: how many there are;");
        StackKeys x = new StackKeys();
        due(x.feed(PLAC, 0x65206162, 0x63646566, 0x3b706c61, 0x6365200a), 20);
        due(x.feed(0x67686a3b, BLANKS, BLANKS, BLANKS, BLANKS), 40);
        due(x.town(), 2);
        String names = "abcdefghj";
        for (int k = 0; k < 9; k++) {
            due(x.letter(0, k / 6, k % 6), names.charAt(k));
        }
        due(x.letter(0, 1, 3), NONE);
        due(x.feed(0, 0, 0, 0, 0), 20);
        due(x.end(3), true);
        due(x.feed(0, 0, 0, 0, 0), 23);
        for (int at = 0; at < 20; at++) {
            StackKeys y = new StackKeys();
            int[] n = {BLANKS, BLANKS, BLANKS, BLANKS, BLANKS};
            n[at / 4] = n[at / 4] & ~(255 << 8 * (3 - at % 4)) | 0xa0 << 8 * (3 - at % 4);
            due(y.feed(n[0], n[1], n[2], n[3], n[4]), 20);
            due(y.town(), NONE);
            due(y.fault(1), at);
        }
    }

    private static void fullTape() {
        says(2, "NONE, doing nothing, if there would be more than 1600.");
        StackKeys x = new StackKeys();
        for (int i = 1; i <= 79; i++) {
            due(x.feed(BLANKS, BLANKS, BLANKS, BLANKS, BLANKS), 20 * i);
        }
        due(x.end(1572), true);
        due(x.feed(PLAC, 0x6520613b, BLANKS, BLANKS, BLANKS), 1592);
        due(x.feed(1, 2, 3, 4, 5), NONE);
        due(x.end(1581), true);
        due(x.feed(1, 2, 3, 4, 5), NONE);
        due(x.end(1582), false);
        due(x.end(1580), true);
        due(x.feed(PLAC, 0x6520623b, BLANKS, BLANKS, BLANKS), 1600);
        due(x.feed(1, 2, 3, 4, 5), NONE);
        due(x.feed(LOW, HIGH, -1, 0, 1), NONE);
        due(x.end(1601), false);
        due(x.end(1600), true);
        due(x.town(), 2);
        due(x.letter(0, 1, 0), 'b');
        due(x.status(0), 6);
        due(x.feed(BLANKS, BLANKS, BLANKS, BLANKS, BLANKS), 20);
        good(" ".repeat(1592) + "place a;", 1);
        faulty(" ".repeat(1593) + "place a^", 1);
        faulty(" ".repeat(1599) + "^!", 1);
    }

    private static void ending() {
        says(3, "The tape has its first n bytes alone: true;");
        StackKeys x = new StackKeys();
        due(x.end(0), true);
        feed(x, "place a;place b;place c;");
        due(x.end(24), true);
        due(x.end(16), true);
        due(x.town(), 2);
        feed(x, "place a;place b;");
        due(x.end(15), true);
        due(x.town(), NONE);
        due(x.fault(1), 15);
        feed(x, "place a;place b;");
        due(x.end(0), true);
        feed(x, "place c;");
        due(x.town(), 1);
        due(x.letter(0, 0, 0), 'c');
        due(x.status(0), 0);
        for (String behind : new String[] {"bc", " ", "\n\n", ";", "; place c;", "77", "!"}) {
            feed(x, "place a" + behind);
            due(x.end(7), true);
            due(x.town(), NONE);
            due(x.fault(1), 7);
        }
        feed(x, "place a;!");
        due(x.end(8), true);
        due(x.town(), 1);
        due(x.status(0), 0);
        says(3, "false, doing nothing, if it has not so many, or n is below 0.");
        due(x.end(1), false);
        due(x.end(-1), false);
        due(x.end(LOW), false);
        due(x.end(HIGH), false);
        feed(x, "place a;place bb;");
        due(x.end(18), false);
        due(x.end(-1), false);
        due(x.end(17), true);
        due(x.town(), 2);
        due(x.letter(0, 1, 1), 'b');
        due(x.status(0), 6);
    }

    private static void lastCall() {
        says(38, "An object is used for at most 512 calls after it has been made;");
        StackKeys x = new StackKeys();
        for (int call = 1; call < 512; call++) {
            due(x.end(-1), false);
        }
        due(x.status(0), 511);
        StackKeys y = new StackKeys();
        for (int call = 1; call < 512; call++) {
            due(y.go(0, 0), NONE);
        }
        due(y.status(2), 511);
        StackKeys z = new StackKeys();
        due(tell(z, "place a;box b at a;lost b;"), 3);
        for (int call = 6; call < 511; call += 2) {
            due(z.trial(0, true), 1);
            due(z.unsay(), 0);
        }
        due(z.trial(0, true), 1);
        due(z.trial(0, false), 1);
    }
}
