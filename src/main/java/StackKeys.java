/**
 * A town of places, doors and boxes whose keys open what they shut last, then the one before that, and nothing else.
 * The document tells the promises; this class keeps the two towns (the present one and one to read into) and hands
 * each call to the class that answers it.
 */
public final class StackKeys {
    public static final int NONE = -1;

    private static final int TAPE_LIMIT = 1600;

    /** Kinds of what a town has, numbered as has() asks for them. */
    private static final int PLACES = 0;
    private static final int DOORS = 1;
    private static final int KEYS = 2;
    private static final int PERSONS = 3;
    private static final int THINGS = 4;
    private static final int WANTS = 5;
    private static final int MUSTS = 6;
    private static final int BARS = 7;
    private static final int KINDS = 8;
    private static final int[] LIMITS = {8, 10, 4, 3, 4, 6, 6, 6};
    private static final int NAMED_KINDS = 5;
    private static final int MOST_NAMES = 10;

    private static final int MOST_PLACES = 8;
    private static final int MOST_DOORS = 10;
    private static final int MOST_KEYS = 4;
    private static final int MOST_PERSONS = 3;
    private static final int MOST_THINGS = 4;
    private static final int MOST_MUSTS = 6;
    private static final int MOST_BARS = 6;
    private static final int ROW_LIMIT = 6;
    private static final int WANTS_EACH = 2;
    private static final int BRACKETS = 8;

    /** Where a key or a thing is, as an image tells it: below PLACE_BASE the number of a person. */
    private static final int PLACE_BASE = 10;
    private static final int BOX_BASE = 20;
    private static final int BROKEN = 40;

    private static final int LETTERS = 6;
    private static final int DIGITS = 4;
    private static final int LETTER_BITS = 5;
    private static final int LETTER_MASK = 31;
    private static final int BEFORE_A = 96;

    /** The words that no name is; the first twelve begin statements, in the order of STATEMENT_KINDS. */
    private static final String OWN_WORDS =
            "place door box key person thing wants must bar has shut lost at in by when or and not all who spot keys closed min max ";
    private static final int OWN_COUNT = 26;
    private static final int[] STATEMENT_KINDS = {0, 1, 1, 2, 3, 4, 5, 6, 7, -1, -1, -1};
    private static final int W_PLACE = 0;
    private static final int W_DOOR = 1;
    private static final int W_BOX = 2;
    private static final int W_KEY = 3;
    private static final int W_PERSON = 4;
    private static final int W_THING = 5;
    private static final int W_WANTS = 6;
    private static final int W_MUST = 7;
    private static final int W_BAR = 8;
    private static final int W_HAS = 9;
    private static final int W_SHUT = 10;
    private static final int W_LOST = 11;
    private static final int W_AT = 12;
    private static final int W_IN = 13;
    private static final int W_BY = 14;
    private static final int W_WHEN = 15;
    private static final int W_OR = 16;
    private static final int W_AND = 17;
    private static final int W_NOT = 18;
    private static final int W_ALL = 19;
    private static final int W_WHO = 20;
    private static final int W_SPOT = 21;
    private static final int W_KEYS = 22;
    private static final int W_CLOSED = 23;
    private static final int W_MIN = 24;
    private static final int W_MAX = 25;

    private static final int REFUSAL_KINDS = 6;
    private static final int REFUSED_TAPE = 0;
    private static final int REFUSED_TOWN = 1;
    private static final int REFUSED_ACT = 2;
    private static final int REFUSED_HANDING = 3;
    private static final int REFUSED_TRIAL = 4;
    private static final int REFUSED_IMAGE = 5;

    private final Tape tape = new Tape();
    private final Reader reader = new Reader(tape);
    private final Alone alone = new Alone();
    private final Hours hours = new Hours();
    private final Found found = new Found();
    private final Watch watch = new Watch();
    private final Picture picture = new Picture();
    private final Standing kept = new Standing();
    private final int[] refusals = new int[REFUSAL_KINDS];
    private Town present = new Town();
    private Town spare = new Town();

    public StackKeys() {
    }

    public int feed(int a, int b, int c, int d, int e) {
        if (!tape.hasRoom()) {
            return refused(REFUSED_TAPE);
        }
        tape.put(a);
        tape.put(b);
        tape.put(c);
        tape.put(d);
        tape.put(e);
        return tape.size;
    }

    public boolean end(int n) {
        if (n < 0 || n > tape.size) {
            refused(REFUSED_TAPE);
            return false;
        }
        tape.size = n;
        return true;
    }

    public int town() {
        int statements = reader.readTown(spare);
        tape.size = 0;
        if (statements == NONE) {
            return refused(REFUSED_TOWN);
        }
        Town old = present;
        present = spare;
        spare = old;
        found.trials = 0;
        return statements;
    }

    public int fault(int what) {
        if (what == 0) {
            return reader.fault;
        }
        return what == 1 ? reader.faultPlace : NONE;
    }

    public int has(int what) {
        if (what == 8) {
            return Integer.bitCount(present.shutMask());
        }
        if (what == 9) {
            return Integer.bitCount(present.deadMask());
        }
        return what >= 0 && what < KINDS ? present.counts[what] : NONE;
    }

    public int letter(int kind, int which, int k) {
        if (kind < 0 || kind >= NAMED_KINDS || !present.isThere(kind, which) || k < 0 || k >= LETTERS) {
            return NONE;
        }
        int letter = (present.names[kind][which] >> (LETTER_BITS * k)) & LETTER_MASK;
        return letter == 0 ? NONE : letter + BEFORE_A;
    }

    public int door(int door, int what) {
        if (!present.isThere(DOORS, door)) {
            return NONE;
        }
        switch (what) {
            case 0:
                return present.first[door];
            case 1:
                return present.second[door];
            case 2:
                return present.isBox(door) ? 1 : 0;
            case 3:
                return present.minutes[door];
            case 4:
                return (present.shutMask() >> door) & 1;
            case 5:
                return present.rowsWith(door);
            case 6:
                return (present.lost >> door) & 1;
            case 7:
                return (present.deadMask() >> door) & 1;
            default:
                return NONE;
        }
    }

    public int key(int key, int what) {
        if (!present.isThere(KEYS, key)) {
            return NONE;
        }
        switch (what) {
            case 0:
                return present.now.where[key];
            case 1:
                return present.now.rowSize[key];
            case 2:
                return present.now.topOf(key);
            default:
                return NONE;
        }
    }

    public int in(int key, int k) {
        if (!present.isThere(KEYS, key)) {
            return NONE;
        }
        return present.now.inRow(key, k);
    }

    public int person(int person, int what) {
        if (!present.isThere(PERSONS, person)) {
            return NONE;
        }
        switch (what) {
            case 0:
                return present.now.spot[person];
            case 1:
                return present.keysOf(person);
            case 2:
                return Integer.bitCount(alone.placesOf(present, person));
            case 3:
                return alone.placesOf(present, person);
            default:
                return NONE;
        }
    }

    public int go(int person, int door) {
        return actAnswer(present.goThrough(person, door));
    }

    public int open(int person, int key) {
        return actAnswer(present.openWith(person, key));
    }

    public int shut(int person, int key, int door) {
        return actAnswer(present.shutWith(person, key, door));
    }

    public boolean lend(int person, int key, int to) {
        return handingAnswer(present.lendTo(person, key, to));
    }

    public boolean take(int person, int key) {
        return handingAnswer(present.takeUp(person, key));
    }

    public boolean lay(int person, int key, int box) {
        return handingAnswer(present.layDown(person, key, box));
    }

    public int snap(int key) {
        if (!present.isThere(KEYS, key) || present.now.where[key] == BROKEN) {
            return refused(REFUSED_HANDING);
        }
        present.now.where[key] = BROKEN;
        return present.now.rowSize[key];
    }

    public int row() {
        kept.copyFrom(present.now);
        int impossible = firstImpossible();
        present.now.copyFrom(kept);
        tape.size = 0;
        return impossible;
    }

    public int reach(int person, int place) {
        if (!present.isThere(PERSONS, person) || !present.isThere(PLACES, place)) {
            return NONE;
        }
        return alone.search(present, person, present.keysOf(person), Alone.TO_PLACE, place);
    }

    public int opens(int person, int door) {
        if (!present.isThere(PERSONS, person) || !present.isThere(DOORS, door)) {
            return NONE;
        }
        return alone.search(present, person, present.keysOf(person), Alone.TO_OPEN, door);
    }

    public int errands(int person) {
        if (!present.isThere(PERSONS, person)) {
            return NONE;
        }
        return alone.search(present, person, present.keysOf(person), Alone.TO_HAVE, 0);
    }

    public int lent(int person, int place, int what) {
        if (!present.isThere(PERSONS, person) || !present.isThere(PLACES, place) || what < 0 || what > 2) {
            return NONE;
        }
        int helper = alone.bestLent(present, person, place);
        if (helper == NONE || what == 0) {
            return helper;
        }
        int acts = alone.lentActs;
        if (what == 1) {
            return acts;
        }
        int unaided = alone.search(present, person, present.keysOf(person), Alone.TO_PLACE, place);
        return unaided == NONE ? NONE : unaided - acts;
    }

    public int locked() {
        int who = 0;
        for (int person = 0; person < present.counts[PERSONS]; person++) {
            int spot = present.now.spot[person];
            if (present.hasDoorAt(spot) && alone.placesOf(present, person) == 1 << spot) {
                who |= 1 << person;
            }
        }
        return who;
    }

    public int can(int persons, int door) {
        if (!present.isThere(DOORS, door) || persons < 0 || persons >= 1 << present.counts[PERSONS]) {
            return NONE;
        }
        int holders = present.holdersOf(door);
        return holders != NONE && (holders & ~persons) == 0 ? 1 : 0;
    }

    public int needs(int door, int what) {
        if (!present.isThere(DOORS, door) || what < 0 || what > 1) {
            return NONE;
        }
        int holders = present.holdersOf(door);
        if (holders == NONE) {
            return NONE;
        }
        return what == 0 ? Integer.bitCount(holders) : present.workOf(door);
    }

    public int cross(int what) {
        return what == 0 || what == 1 ? hours.firstCrossing(present, what == 1) : NONE;
    }

    public int fewest(int k) {
        if (k != NONE && !present.isThere(MUSTS, k)) {
            return NONE;
        }
        int needed = hours.fewestKeys(present);
        return k == NONE ? needed : hours.keyOf[k];
    }

    public int order(int k) {
        return present.isThere(MUSTS, k) ? hours.inOrder(present, k) : NONE;
    }

    public int trial(int door, boolean opened) {
        if (!present.isThere(DOORS, door) || !found.add(door, opened)) {
            return refused(REFUSED_TRIAL);
        }
        found.survey(present, NONE);
        return found.fitting;
    }

    public int fits(int k) {
        found.survey(present, NONE);
        if (k == NONE) {
            return found.fitting;
        }
        return k >= 0 && k < found.firstSize && k < Found.LONGEST ? found.first[k] : NONE;
    }

    public int would(int door) {
        if (!present.isThere(DOORS, door)) {
            return NONE;
        }
        found.survey(present, door);
        return found.opening;
    }

    public int unsay() {
        if (found.trials == 0) {
            return refused(REFUSED_TRIAL);
        }
        found.trials--;
        return found.trials;
    }

    public int round(int person, int places) {
        if (!present.isThere(PERSONS, person)) {
            return NONE;
        }
        return watch.minutesOf(present, present.now.spot[person], places);
    }

    public int image() {
        return picture.write(present);
    }

    public int octet(int k) {
        return k >= 0 && k < picture.size && k < Picture.LONGEST ? picture.bytes[k] : NONE;
    }

    public boolean on() {
        boolean taken = picture.accept(present, tape);
        tape.size = 0;
        if (!taken) {
            refused(REFUSED_IMAGE);
        }
        return taken;
    }

    public int status(int what) {
        return what >= 0 && what < REFUSAL_KINDS ? refusals[what] : NONE;
    }

    private int refused(int kind) {
        if (kind >= 0 && kind < REFUSAL_KINDS) {
            refusals[kind]++;
        }
        return NONE;
    }

    private int actAnswer(int answer) {
        return answer == NONE ? refused(REFUSED_ACT) : answer;
    }

    private boolean handingAnswer(boolean done) {
        if (!done) {
            refused(REFUSED_HANDING);
        }
        return done;
    }

    private int firstImpossible() {
        int act = 0;
        for (int at = 0; at < tape.size; at += 3) {
            if (at + 3 > tape.size) {
                return act;
            }
            if (present.toldAct(tape.at(at), tape.at(at + 1), tape.at(at + 2)) == NONE) {
                return act;
            }
            act++;
        }
        return NONE;
    }

    /** The bytes that came, of which a town, told acts or an image are read. */
    private static final class Tape {
        final byte[] bytes = new byte[TAPE_LIMIT];
        int size = 0;

        boolean hasRoom() {
            return size + 20 <= TAPE_LIMIT;
        }

        void put(int number) {
            for (int shift = 24; shift >= 0; shift -= 8) {
                if (size >= 0 && size < TAPE_LIMIT) {
                    bytes[size] = (byte) (number >> shift);
                    size++;
                }
            }
        }

        int at(int k) {
            return k >= 0 && k < size && k < TAPE_LIMIT ? bytes[k] & 255 : NONE;
        }
    }

    /** Cuts the tape into words, numbers and signs; a token is cut only when it is looked at, so faults come in order. */
    private static final class Lexer {
        static final int END = 0;
        static final int WORD = 1;
        static final int NUMBER = 2;
        static final int SIGN = 3;
        static final int BAD = 4;

        final Tape tape;
        int at = 0;
        int kind = END;
        int start = 0;
        int value = 0;
        int lastEnd = NONE;
        boolean ahead = false;

        Lexer(Tape tape) {
            this.tape = tape;
        }

        void begin() {
            at = 0;
            lastEnd = NONE;
            ahead = false;
        }

        void pass() {
            ahead = false;
        }

        boolean isSign(char sign) {
            return kind == SIGN && value == sign;
        }

        void look() {
            if (ahead) {
                return;
            }
            ahead = true;
            while (at < tape.size && at < TAPE_LIMIT && (tape.bytes[at] == 10 || tape.bytes[at] == 32)) {
                at++;
            }
            start = at;
            if (at >= tape.size || at >= TAPE_LIMIT) {
                kind = END;
                return;
            }
            value = tape.bytes[at];
            if (value >= 'a' && value <= 'z') {
                cut(WORD, 'a', 'z', LETTERS);
            } else if (value >= '0' && value <= '9') {
                cut(NUMBER, '0', '9', DIGITS);
            } else {
                kind = SIGN;
                at++;
            }
        }

        /** One too long is bad at the sign too much, whatever may stand there; one without a blank ahead at its first. */
        private void cut(int what, char low, char high, int most) {
            kind = start == lastEnd ? BAD : what;
            value = 0;
            while (at < tape.size && at < TAPE_LIMIT && tape.bytes[at] >= low && tape.bytes[at] <= high) {
                if (at - start >= most) {
                    kind = BAD;
                    start = at;
                    return;
                }
                int digit = tape.bytes[at] - low;
                value = what == NUMBER ? value * 10 + digit : value | (digit + 1) << (LETTER_BITS * (at - start));
                at++;
            }
            lastEnd = at;
        }
    }

    /** Reads a town off the tape and tells the first fault along it. */
    private static final class Reader {
        final Lexer lexer;
        final int[] own = new int[OWN_COUNT];
        int fault = 0;
        int faultPlace = NONE;
        int bracketsOpen = 0;

        Reader(Tape tape) {
            lexer = new Lexer(tape);
            int word = 0;
            int letter = 0;
            for (int i = 0; i < OWN_WORDS.length() && word < OWN_COUNT; i++) {
                char sign = OWN_WORDS.charAt(i);
                if (sign == ' ') {
                    word++;
                    letter = 0;
                } else {
                    own[word] |= (sign - BEFORE_A) << (LETTER_BITS * letter);
                    letter++;
                }
            }
        }

        int readTown(Town town) {
            town.clear();
            lexer.begin();
            fault = 0;
            faultPlace = NONE;
            for (int n = 0; n <= TAPE_LIMIT; n++) {
                lexer.look();
                if (lexer.kind == Lexer.END) {
                    return n;
                }
                boolean read;
                switch (statementWord(town)) {
                    case W_PLACE:
                        read = town.add(PLACES, newName(town));
                        break;
                    case W_DOOR:
                        read = readDoor(town);
                        break;
                    case W_BOX:
                        read = readBox(town);
                        break;
                    case W_KEY:
                        read = readKey(town);
                        break;
                    case W_PERSON:
                        read = readPerson(town);
                        break;
                    case W_THING:
                        read = readThing(town);
                        break;
                    case W_WANTS:
                        read = readWants(town);
                        break;
                    case W_MUST:
                        read = readMust(town);
                        break;
                    case W_BAR:
                        read = readBar(town);
                        break;
                    case W_HAS:
                        read = readHas(town);
                        break;
                    case W_SHUT:
                        read = readShut(town);
                        break;
                    case W_LOST:
                        read = readLost(town);
                        break;
                    default:
                        read = false;
                }
                if (!read || !sign(';')) {
                    return NONE;
                }
            }
            return NONE;
        }

        private int statementWord(Town town) {
            for (int word = 0; word < STATEMENT_KINDS.length; word++) {
                if (lexer.kind == Lexer.WORD && lexer.value == own[word]) {
                    int kind = STATEMENT_KINDS[word];
                    if (kind != NONE && town.counts[kind] >= LIMITS[kind]) {
                        return none(5);
                    }
                    lexer.pass();
                    return word;
                }
            }
            return none(1);
        }

        private boolean readDoor(Town town) {
            int name = newName(town);
            int from = name == NONE ? NONE : asked(town, PLACES);
            int to = from == NONE ? NONE : asked(town, PLACES);
            if (to == NONE) {
                return false;
            }
            if (to == from) {
                return bad(3);
            }
            int minutes = number(1, 99);
            return minutes != NONE && town.addDoor(name, from, to, minutes);
        }

        private boolean readBox(Town town) {
            int name = newName(town);
            if (name == NONE || !ownWord(W_AT)) {
                return false;
            }
            int spot = asked(town, PLACES);
            return spot != NONE && town.addDoor(name, spot, spot, 0);
        }

        private boolean readKey(Town town) {
            int name = newName(town);
            if (name == NONE || !ownWord(W_IN)) {
                return false;
            }
            int where = askedSpot(town);
            return where != NONE && town.addKey(name, where);
        }

        private boolean readPerson(Town town) {
            int name = newName(town);
            if (name == NONE || !ownWord(W_AT)) {
                return false;
            }
            int spot = asked(town, PLACES);
            return spot != NONE && town.addPerson(name, spot);
        }

        private boolean readThing(Town town) {
            int name = newName(town);
            if (name == NONE || !ownWord(W_IN)) {
                return false;
            }
            int where = askedSpot(town);
            return where != NONE && town.addThing(name, where);
        }

        private boolean readWants(Town town) {
            int person = asked(town, PERSONS);
            if (person == NONE) {
                return false;
            }
            if (Integer.bitCount(town.wanted[person]) >= WANTS_EACH) {
                return bad(3);
            }
            int thing = asked(town, THINGS);
            if (thing == NONE) {
                return false;
            }
            if (((town.wanted[person] >> thing) & 1) != 0) {
                return bad(3);
            }
            town.wanted[person] |= 1 << thing;
            town.counts[WANTS]++;
            return true;
        }

        private boolean readMust(Town town) {
            int door = asked(town, DOORS);
            int begin = door == NONE ? NONE : number(0, 1439);
            int finish = begin == NONE ? NONE : number(begin, 1439);
            return finish != NONE && town.addMust(door, begin, finish);
        }

        private boolean readBar(Town town) {
            int door = asked(town, DOORS);
            if (door == NONE) {
                return false;
            }
            if (town.isBox(door)) {
                return bad(3);
            }
            int from = town.tests.size;
            bracketsOpen = 0;
            return ownWord(W_WHEN) && readTest(town.tests) && town.addBar(door, from, town.tests.size);
        }

        private boolean readHas(Town town) {
            int person = asked(town, PERSONS);
            int key = person == NONE ? NONE : asked(town, KEYS);
            if (key == NONE) {
                return false;
            }
            if (town.now.where[key] < PLACE_BASE) {
                return bad(3);
            }
            town.now.where[key] = person;
            return true;
        }

        private boolean readShut(Town town) {
            int door = asked(town, DOORS);
            if (door == NONE || !ownWord(W_BY)) {
                return false;
            }
            int key = asked(town, KEYS);
            if (key == NONE) {
                return false;
            }
            return town.now.push(key, door) || bad(3);
        }

        private boolean readLost(Town town) {
            int door = asked(town, DOORS);
            if (door == NONE) {
                return false;
            }
            if (((town.lost >> door) & 1) != 0) {
                return bad(3);
            }
            town.lost |= 1 << door;
            return true;
        }

        private boolean readTest(Tests tests) {
            if (!readBoth(tests)) {
                return false;
            }
            for (int n = 0; n < TAPE_LIMIT && passesWord(W_OR); n++) {
                if (!readBoth(tests) || !tests.add(Tests.OR)) {
                    return false;
                }
            }
            return true;
        }

        private boolean readBoth(Tests tests) {
            if (!readFact(tests)) {
                return false;
            }
            for (int n = 0; n < TAPE_LIMIT && passesWord(W_AND); n++) {
                if (!readFact(tests) || !tests.add(Tests.AND)) {
                    return false;
                }
            }
            return true;
        }

        private boolean readFact(Tests tests) {
            boolean turned = false;
            for (int n = 0; n < TAPE_LIMIT && passesWord(W_NOT); n++) {
                turned = !turned;
            }
            boolean read;
            if (passesWord(W_ALL)) {
                read = tests.add(Tests.ALL);
            } else if (passesSign('[')) {
                read = enter() && readTest(tests) && sign(']') && leave();
            } else {
                read = readSum(tests);
                int comparison = read ? comparisonSign() : NONE;
                read = comparison != NONE && readSum(tests) && tests.add(comparison);
            }
            return read && (!turned || tests.add(Tests.NOT));
        }

        private boolean readSum(Tests tests) {
            if (!readProduct(tests)) {
                return false;
            }
            for (int n = 0; n < TAPE_LIMIT; n++) {
                int operation = Tests.PLUS;
                if (passesSign('-')) {
                    operation = Tests.MINUS;
                } else if (!passesSign('+')) {
                    return true;
                }
                if (!readProduct(tests) || !tests.add(operation)) {
                    return false;
                }
            }
            return false;
        }

        private boolean readProduct(Tests tests) {
            if (!readPart(tests)) {
                return false;
            }
            for (int n = 0; n < TAPE_LIMIT; n++) {
                int operation = Tests.TIMES;
                if (passesSign('/')) {
                    operation = Tests.OVER;
                } else if (passesSign('%')) {
                    operation = Tests.REST;
                } else if (!passesSign('*')) {
                    return true;
                }
                if (!readPart(tests) || !tests.add(operation)) {
                    return false;
                }
            }
            return false;
        }

        private boolean readPart(Tests tests) {
            lexer.look();
            if (lexer.kind == Lexer.NUMBER) {
                lexer.pass();
                return tests.add(lexer.value);
            }
            if (passesSign('(')) {
                return enter() && readSum(tests) && sign(')') && leave();
            }
            if (passesWord(W_WHO)) {
                return tests.add(Tests.WHO);
            }
            if (passesWord(W_SPOT)) {
                return tests.add(Tests.SPOT);
            }
            if (passesWord(W_KEYS)) {
                return tests.add(Tests.HELD);
            }
            if (passesWord(W_CLOSED)) {
                return tests.add(Tests.CLOSED);
            }
            if (passesWord(W_MIN)) {
                return readPair(tests) && tests.add(Tests.LEAST);
            }
            if (passesWord(W_MAX)) {
                return readPair(tests) && tests.add(Tests.MOST);
            }
            return bad(1);
        }

        private boolean readPair(Tests tests) {
            return sign('(') && enter() && readSum(tests) && sign(',') && readSum(tests) && sign(')') && leave();
        }

        private int comparisonSign() {
            lexer.look();
            int comparison = NONE;
            if (lexer.isSign('<')) {
                comparison = Tests.LESS;
            } else if (lexer.isSign('>')) {
                comparison = Tests.MORE;
            } else if (lexer.isSign('=')) {
                comparison = Tests.SAME;
            } else {
                bad(1);
            }
            lexer.pass();
            return comparison;
        }

        private boolean enter() {
            if (bracketsOpen >= BRACKETS) {
                return bad(5);
            }
            bracketsOpen++;
            return true;
        }

        private boolean leave() {
            bracketsOpen--;
            return true;
        }

        private boolean isNameAhead() {
            lexer.look();
            if (lexer.kind != Lexer.WORD) {
                return false;
            }
            for (int word = 0; word < OWN_COUNT; word++) {
                if (lexer.value == own[word]) {
                    return false;
                }
            }
            return true;
        }

        private int newName(Town town) {
            if (!isNameAhead()) {
                return none(1);
            }
            lexer.pass();
            for (int kind = 0; kind < NAMED_KINDS; kind++) {
                if (town.find(kind, lexer.value) != NONE) {
                    return none(2);
                }
            }
            return lexer.value;
        }

        private int asked(Town town, int kind) {
            if (!isNameAhead()) {
                return none(1);
            }
            lexer.pass();
            int which = town.find(kind, lexer.value);
            return which == NONE ? none(3) : which;
        }

        private int askedSpot(Town town) {
            if (!isNameAhead()) {
                return none(1);
            }
            lexer.pass();
            int place = town.find(PLACES, lexer.value);
            if (place != NONE) {
                return PLACE_BASE + place;
            }
            int box = town.find(DOORS, lexer.value);
            return box != NONE && town.isBox(box) ? BOX_BASE + box : none(3);
        }

        private int number(int least, int most) {
            lexer.look();
            if (lexer.kind != Lexer.NUMBER) {
                return none(1);
            }
            lexer.pass();
            return lexer.value < least || lexer.value > most ? none(4) : lexer.value;
        }

        private boolean ownWord(int word) {
            return passesWord(word) || bad(1);
        }

        private boolean sign(char sign) {
            lexer.look();
            if (!lexer.isSign(sign)) {
                return bad(1);
            }
            lexer.pass();
            return true;
        }

        private boolean passesWord(int word) {
            lexer.look();
            if (lexer.kind != Lexer.WORD || word < 0 || word >= OWN_COUNT || lexer.value != own[word]) {
                return false;
            }
            lexer.pass();
            return true;
        }

        private boolean passesSign(char sign) {
            lexer.look();
            if (!lexer.isSign(sign)) {
                return false;
            }
            lexer.pass();
            return true;
        }

        /** The token at which the fault is, is always the one that was looked at last. */
        private boolean bad(int number) {
            fault = number;
            faultPlace = lexer.start;
            return false;
        }

        private int none(int number) {
            bad(number);
            return NONE;
        }
    }

    /** The tests of all bars, each as a row of numbers and operations behind their operands. */
    private static final class Tests {
        static final int WHO = -1;
        static final int SPOT = -2;
        static final int HELD = -3;
        static final int CLOSED = -4;
        static final int ALL = -5;
        static final int NOT = -6;
        static final int OR = -7;
        static final int AND = -8;
        static final int LESS = -9;
        static final int MORE = -10;
        static final int SAME = -11;
        static final int PLUS = -12;
        static final int MINUS = -13;
        static final int TIMES = -14;
        static final int OVER = -15;
        static final int REST = -16;
        static final int LEAST = -17;
        static final int MOST = -18;
        static final int BOUND = 1000000;
        /** Eight brackets, each with at most three values waiting ahead of it, and five outside fit well. */
        static final int STACK = 64;

        final int[] code = new int[TAPE_LIMIT];
        final int[] stack = new int[STACK];
        int size = 0;

        boolean add(int operation) {
            if (size < 0 || size >= TAPE_LIMIT) {
                return false;
            }
            code[size] = operation;
            size++;
            return true;
        }

        boolean holds(int from, int to, int who, int spot, int held, int closed) {
            int top = 0;
            for (int i = Math.max(from, 0); i < to && i < size && i < TAPE_LIMIT; i++) {
                int operation = code[i];
                if (operation >= ALL) {
                    if (top >= STACK) {
                        return false;
                    }
                    stack[top] = value(operation, who, spot, held, closed);
                    top++;
                } else if (operation == NOT) {
                    if (top < 1) {
                        return false;
                    }
                    stack[top - 1] = 1 - stack[top - 1];
                } else {
                    if (top < 2) {
                        return false;
                    }
                    top--;
                    stack[top - 1] = joined(operation, stack[top - 1], stack[top]);
                }
            }
            return top == 1 && stack[0] == 1;
        }

        private static int value(int operation, int who, int spot, int held, int closed) {
            switch (operation) {
                case WHO:
                    return who;
                case SPOT:
                    return spot;
                case HELD:
                    return held;
                case CLOSED:
                    return closed;
                case ALL:
                    return 1;
                default:
                    return operation;
            }
        }

        private static int joined(int operation, int a, int b) {
            switch (operation) {
                case OR:
                    return a | b;
                case AND:
                    return a & b;
                case LESS:
                    return a < b ? 1 : 0;
                case MORE:
                    return a > b ? 1 : 0;
                case SAME:
                    return a == b ? 1 : 0;
                case PLUS:
                    return bounded((long) a + b);
                case MINUS:
                    return bounded((long) a - b);
                case TIMES:
                    return bounded((long) a * b);
                case OVER:
                    return b == 0 ? 0 : Math.floorDiv(a, b);
                case REST:
                    return b == 0 ? 0 : Math.floorMod(a, b);
                case LEAST:
                    return Math.min(a, b);
                default:
                    return Math.max(a, b);
            }
        }

        private static int bounded(long number) {
            if (number > BOUND) {
                return BOUND;
            }
            return number < -BOUND ? -BOUND : (int) number;
        }
    }

    /** What acts change: where persons and keys are, and the keys' rows. */
    private static final class Standing {
        final int[] spot = new int[MOST_PERSONS];
        final int[] where = new int[MOST_KEYS];
        final int[] rowSize = new int[MOST_KEYS];
        final int[][] rows = new int[MOST_KEYS][ROW_LIMIT];

        void copyFrom(Standing other) {
            for (int person = 0; person < MOST_PERSONS; person++) {
                spot[person] = other.spot[person];
            }
            for (int key = 0; key < MOST_KEYS; key++) {
                where[key] = other.where[key];
                rowSize[key] = other.rowSize[key];
                for (int k = 0; k < ROW_LIMIT; k++) {
                    rows[key][k] = other.rows[key][k];
                }
            }
        }

        int inRow(int key, int k) {
            if (key < 0 || key >= MOST_KEYS || k < 0 || k >= rowSize[key] || k >= ROW_LIMIT) {
                return NONE;
            }
            return rows[key][k];
        }

        int topOf(int key) {
            return key >= 0 && key < MOST_KEYS ? inRow(key, rowSize[key] - 1) : NONE;
        }

        int placeInRow(int key, int door) {
            for (int k = 0; k < ROW_LIMIT; k++) {
                if (door != NONE && inRow(key, k) == door) {
                    return k;
                }
            }
            return NONE;
        }

        boolean push(int key, int door) {
            if (key < 0 || key >= MOST_KEYS || placeInRow(key, door) != NONE) {
                return false;
            }
            int size = rowSize[key];
            if (size < 0 || size >= ROW_LIMIT) {
                return false;
            }
            rows[key][size] = door;
            rowSize[key] = size + 1;
            return true;
        }

        int rowMask(int key) {
            int mask = 0;
            for (int k = 0; k < ROW_LIMIT; k++) {
                int door = inRow(key, k);
                if (door != NONE) {
                    mask |= 1 << door;
                }
            }
            return mask;
        }
    }

    /** A town as its text told it, and how it stands now. */
    private static final class Town {
        final int[] counts = new int[KINDS];
        final int[][] names = new int[NAMED_KINDS][MOST_NAMES];
        final int[] first = new int[MOST_DOORS];
        final int[] second = new int[MOST_DOORS];
        final int[] minutes = new int[MOST_DOORS];
        final int[] thingWhere = new int[MOST_THINGS];
        final int[] wanted = new int[MOST_PERSONS];
        final int[] mustDoor = new int[MOST_MUSTS];
        final int[] mustBegin = new int[MOST_MUSTS];
        final int[] mustEnd = new int[MOST_MUSTS];
        final int[] barDoor = new int[MOST_BARS];
        final int[] barFrom = new int[MOST_BARS];
        final int[] barTo = new int[MOST_BARS];
        final Tests tests = new Tests();
        final Standing now = new Standing();
        int lost = 0;

        void clear() {
            for (int kind = 0; kind < KINDS; kind++) {
                counts[kind] = 0;
            }
            for (int person = 0; person < MOST_PERSONS; person++) {
                wanted[person] = 0;
            }
            for (int key = 0; key < MOST_KEYS; key++) {
                now.rowSize[key] = 0;
            }
            tests.size = 0;
            lost = 0;
        }

        boolean isThere(int kind, int which) {
            return kind >= 0 && kind < KINDS && which >= 0 && which < counts[kind];
        }

        int find(int kind, int name) {
            if (kind < 0 || kind >= NAMED_KINDS) {
                return NONE;
            }
            for (int which = 0; which < counts[kind] && which < MOST_NAMES; which++) {
                if (names[kind][which] == name) {
                    return which;
                }
            }
            return NONE;
        }

        boolean add(int kind, int name) {
            if (name == NONE || kind < 0 || kind >= NAMED_KINDS || counts[kind] >= LIMITS[kind]) {
                return false;
            }
            names[kind][counts[kind]] = name;
            counts[kind]++;
            return true;
        }

        boolean addDoor(int name, int from, int to, int howLong) {
            if (!add(DOORS, name)) {
                return false;
            }
            int door = counts[DOORS] - 1;
            first[door] = from;
            second[door] = to;
            minutes[door] = howLong;
            return true;
        }

        boolean addKey(int name, int where) {
            if (!add(KEYS, name)) {
                return false;
            }
            now.where[counts[KEYS] - 1] = where;
            return true;
        }

        boolean addPerson(int name, int spot) {
            if (!add(PERSONS, name)) {
                return false;
            }
            now.spot[counts[PERSONS] - 1] = spot;
            return true;
        }

        boolean addThing(int name, int where) {
            if (!add(THINGS, name)) {
                return false;
            }
            thingWhere[counts[THINGS] - 1] = where;
            return true;
        }

        boolean addMust(int door, int begin, int finish) {
            int must = counts[MUSTS];
            if (must < 0 || must >= MOST_MUSTS) {
                return false;
            }
            mustDoor[must] = door;
            mustBegin[must] = begin;
            mustEnd[must] = finish;
            counts[MUSTS]++;
            return true;
        }

        boolean addBar(int door, int from, int to) {
            int bar = counts[BARS];
            if (bar < 0 || bar >= MOST_BARS) {
                return false;
            }
            barDoor[bar] = door;
            barFrom[bar] = from;
            barTo[bar] = to;
            counts[BARS]++;
            return true;
        }

        /** Doors take at least a minute, so none is only a box's. */
        boolean isBox(int door) {
            return door >= 0 && door < counts[DOORS] && minutes[door] == 0;
        }

        boolean isAt(int door, int place) {
            return door >= 0 && door < counts[DOORS] && (first[door] == place || second[door] == place);
        }

        int otherSide(int door, int place) {
            if (!isThere(DOORS, door)) {
                return NONE;
            }
            return first[door] == place ? second[door] : first[door];
        }

        boolean hasDoorAt(int place) {
            for (int door = 0; door < counts[DOORS]; door++) {
                if (!isBox(door) && isAt(door, place)) {
                    return true;
                }
            }
            return false;
        }

        int shutMask() {
            int mask = lost;
            for (int key = 0; key < counts[KEYS]; key++) {
                mask |= now.rowMask(key);
            }
            return mask;
        }

        int deadMask() {
            int mask = lost;
            for (int key = 0; key < counts[KEYS]; key++) {
                if (now.where[key] == BROKEN) {
                    mask |= now.rowMask(key);
                }
            }
            return mask;
        }

        boolean isShut(int door) {
            return ((shutMask() >> door) & 1) != 0;
        }

        int rowsWith(int door) {
            int rows = 0;
            for (int key = 0; key < counts[KEYS]; key++) {
                if (now.placeInRow(key, door) != NONE) {
                    rows++;
                }
            }
            return rows;
        }

        int keysOf(int person) {
            int mask = 0;
            for (int key = 0; key < counts[KEYS]; key++) {
                if (now.where[key] == person) {
                    mask |= 1 << key;
                }
            }
            return mask;
        }

        boolean holdsKey(int person, int key) {
            return isThere(PERSONS, person) && isThere(KEYS, key) && now.where[key] == person;
        }

        boolean isBarred(int door, int person, int spot, int held, int closed) {
            for (int bar = 0; bar < counts[BARS]; bar++) {
                if (barDoor[bar] == door && tests.holds(barFrom[bar], barTo[bar], person, spot, held, closed)) {
                    return true;
                }
            }
            return false;
        }

        int goThrough(int person, int door) {
            if (!isThere(PERSONS, person) || !isThere(DOORS, door) || isBox(door)) {
                return NONE;
            }
            int spot = now.spot[person];
            int shutNow = shutMask();
            if (!isAt(door, spot) || ((shutNow >> door) & 1) != 0) {
                return NONE;
            }
            if (isBarred(door, person, spot, Integer.bitCount(keysOf(person)), Integer.bitCount(shutNow))) {
                return NONE;
            }
            now.spot[person] = otherSide(door, spot);
            return now.spot[person];
        }

        int openWith(int person, int key) {
            if (!holdsKey(person, key)) {
                return NONE;
            }
            int top = now.topOf(key);
            if (top == NONE || !isAt(top, now.spot[person])) {
                return NONE;
            }
            now.rowSize[key]--;
            return top;
        }

        int shutWith(int person, int key, int door) {
            if (!holdsKey(person, key) || !isAt(door, now.spot[person]) || !now.push(key, door)) {
                return NONE;
            }
            return now.rowSize[key];
        }

        boolean lendTo(int person, int key, int to) {
            if (!holdsKey(person, key) || !isThere(PERSONS, to) || to == person) {
                return false;
            }
            if (now.spot[person] != now.spot[to]) {
                return false;
            }
            now.where[key] = to;
            return true;
        }

        boolean takeUp(int person, int key) {
            if (!isThere(PERSONS, person) || !isThere(KEYS, key)) {
                return false;
            }
            int where = now.where[key];
            int spot = now.spot[person];
            if (where != PLACE_BASE + spot && !isOpenBoxAt(where - BOX_BASE, spot)) {
                return false;
            }
            now.where[key] = person;
            return true;
        }

        boolean layDown(int person, int key, int box) {
            if (!holdsKey(person, key)) {
                return false;
            }
            int spot = now.spot[person];
            if (box != NONE && !isOpenBoxAt(box, spot)) {
                return false;
            }
            now.where[key] = box == NONE ? PLACE_BASE + spot : BOX_BASE + box;
            return true;
        }

        private boolean isOpenBoxAt(int box, int spot) {
            return isBox(box) && isAt(box, spot) && !isShut(box);
        }

        /** An act as the tape tells it; NONE if it can't be. */
        int toldAct(int person, int kind, int what) {
            switch (kind) {
                case 0:
                    return goThrough(person, what);
                case 1:
                    return openWith(person, what);
                case 2:
                    return shutWith(person, shuttingKey(person, what), what);
                default:
                    return NONE;
            }
        }

        private int shuttingKey(int person, int door) {
            for (int key = 0; key < counts[KEYS]; key++) {
                if (holdsKey(person, key) && now.placeInRow(key, door) == NONE) {
                    return key;
                }
            }
            return NONE;
        }

        /** The persons who have all keys that shut it, as bits; NONE if not all these are with persons, or it is lost. */
        int holdersOf(int door) {
            if (((lost >> door) & 1) != 0) {
                return NONE;
            }
            int holders = 0;
            for (int key = 0; key < counts[KEYS]; key++) {
                if (now.placeInRow(key, door) != NONE) {
                    if (!isThere(PERSONS, now.where[key])) {
                        return NONE;
                    }
                    holders |= 1 << now.where[key];
                }
            }
            return holders;
        }

        int workOf(int door) {
            int work = 0;
            for (int key = 0; key < counts[KEYS]; key++) {
                int place = now.placeInRow(key, door);
                if (place != NONE) {
                    work += now.rowSize[key] - place;
                }
            }
            return work;
        }
    }

    /**
     * What one person can do by going and opening alone: a search by levels over states, which are the place, how
     * many are left in the row of each key that it has, and which wanted things were had. Sets of states are bits,
     * so that an object stays small.
     */
    private static final class Alone {
        static final int TO_PLACE = 0;
        static final int TO_OPEN = 1;
        static final int TO_HAVE = 2;
        static final int EVERYWHERE = 3;
        /** 8 places, 4 rows of 0 to 6, 2 things had or not. */
        static final int MOST_STATES = 8 * 7 * 7 * 7 * 7 * 4;
        static final int WORDS = MOST_STATES / 64 + 1;
        static final int CLOSED_COUNTS = MOST_DOORS + 1;

        final long[] seen = new long[WORDS];
        final int[][] shutBy = new int[MOST_KEYS][ROW_LIMIT + 1];
        final int[] unit = new int[MOST_KEYS];
        final int[] left = new int[MOST_KEYS];
        final int[] doorsAt = new int[MOST_PLACES];
        final int[] barred = new int[MOST_PLACES * CLOSED_COUNTS];
        final int[] wants = new int[WANTS_EACH];
        long[] front = new long[WORDS];
        long[] next = new long[WORDS];
        int wantCount = 0;
        int hadUnit = 1;
        int states = 0;
        int shutByOthers = 0;
        int goalKind = EVERYWHERE;
        int goal = 0;
        int placesSeen = 0;
        int lentActs = NONE;

        int placesOf(Town town, int person) {
            search(town, person, town.keysOf(person), EVERYWHERE, (1 << town.counts[PLACES]) - 1);
            return placesSeen;
        }

        /** The key that it has not with which it comes to the place by the fewest acts, these then being lentActs. */
        int bestLent(Town town, int person, int place) {
            int keys = town.keysOf(person);
            int best = NONE;
            lentActs = NONE;
            for (int key = 0; key < town.counts[KEYS]; key++) {
                if (((keys >> key) & 1) == 0 && town.now.where[key] != BROKEN) {
                    int acts = search(town, person, keys | 1 << key, TO_PLACE, place);
                    if (acts != NONE && (best == NONE || acts < lentActs)) {
                        best = key;
                        lentActs = acts;
                    }
                }
            }
            return best;
        }

        /** By how few acts the person, having these keys, comes to the goal; NONE if it can't. */
        int search(Town town, int person, int keys, int kind, int what) {
            if (!town.isThere(PERSONS, person)) {
                return NONE;
            }
            goalKind = kind;
            goal = what;
            placesSeen = 0;
            prepareWants(town, person);
            prepareKeys(town, keys);
            prepareDoors(town);
            prepareBars(town, person, Integer.bitCount(keys));
            clearSets();
            markStart(town, town.now.spot[person], keys);
            for (int acts = 0; acts <= states; acts++) {
                if (!advance()) {
                    return NONE;
                }
                if (searchLevel(town)) {
                    return acts;
                }
            }
            return NONE;
        }

        private void prepareWants(Town town, int person) {
            wantCount = 0;
            if (goalKind != TO_HAVE) {
                return;
            }
            for (int thing = 0; thing < town.counts[THINGS]; thing++) {
                if (((town.wanted[person] >> thing) & 1) != 0 && wantCount < WANTS_EACH) {
                    wants[wantCount] = town.thingWhere[thing];
                    wantCount++;
                }
            }
        }

        private void prepareKeys(Town town, int keys) {
            shutByOthers = town.lost;
            int product = town.counts[PLACES];
            for (int key = 0; key < MOST_KEYS; key++) {
                unit[key] = 0;
                if (key >= town.counts[KEYS]) {
                    continue;
                }
                if (((keys >> key) & 1) == 0) {
                    shutByOthers |= town.now.rowMask(key);
                    continue;
                }
                unit[key] = product;
                product *= town.now.rowSize[key] + 1;
                shutBy[key][0] = 0;
                for (int k = 0; k < town.now.rowSize[key] && k < ROW_LIMIT; k++) {
                    shutBy[key][k + 1] = shutBy[key][k] | 1 << town.now.rows[key][k];
                }
            }
            hadUnit = product;
            states = Math.min(product << wantCount, MOST_STATES);
        }

        private void prepareDoors(Town town) {
            for (int place = 0; place < MOST_PLACES; place++) {
                doorsAt[place] = 0;
                for (int door = 0; door < town.counts[DOORS]; door++) {
                    if (!town.isBox(door) && town.isAt(door, place)) {
                        doorsAt[place] |= 1 << door;
                    }
                }
            }
        }

        /** A bar is asked by place and by how many are shut alone, all else staying: so each is asked but once. */
        private void prepareBars(Town town, int person, int held) {
            for (int i = 0; i < MOST_PLACES * CLOSED_COUNTS; i++) {
                barred[i] = 0;
            }
            for (int bar = 0; bar < town.counts[BARS]; bar++) {
                int door = town.barDoor[bar];
                for (int i = 0; i < MOST_PLACES * CLOSED_COUNTS; i++) {
                    int place = i / CLOSED_COUNTS;
                    if (town.isAt(door, place) && town.tests.holds(town.barFrom[bar], town.barTo[bar], person, place,
                            held, i % CLOSED_COUNTS)) {
                        barred[i] |= 1 << door;
                    }
                }
            }
        }

        private void clearSets() {
            for (int word = 0; word < WORDS && word * 64 < states; word++) {
                seen[word] = 0;
                next[word] = 0;
            }
        }

        private void markStart(Town town, int spot, int keys) {
            int state = spot;
            for (int key = 0; key < town.counts[KEYS]; key++) {
                left[key] = 0;
                if (((keys >> key) & 1) != 0) {
                    left[key] = town.now.rowSize[key];
                    state += left[key] * unit[key];
                }
            }
            mark(state + hadAt(town, spot, shutNow(town)) * hadUnit);
        }

        /** What was marked becomes the front; false if nothing was. */
        private boolean advance() {
            long[] old = front;
            front = next;
            next = old;
            boolean some = false;
            for (int word = 0; word < WORDS && word * 64 < states; word++) {
                next[word] = 0;
                if (front[word] != 0) {
                    some = true;
                }
            }
            return some;
        }

        private boolean searchLevel(Town town) {
            for (int word = 0; word < WORDS && word * 64 < states; word++) {
                long bits = front[word];
                for (int bit = 0; bit < 64 && bits != 0; bit++) {
                    if ((bits & 1) != 0 && visit(town, word * 64 + bit)) {
                        return true;
                    }
                    bits >>>= 1;
                }
            }
            return false;
        }

        private boolean visit(Town town, int state) {
            int places = town.counts[PLACES];
            if (places < 1 || hadUnit < 1) {
                return false;
            }
            for (int key = 0; key < town.counts[KEYS]; key++) {
                left[key] = unit[key] < 1 ? 0 : state / unit[key] % (town.now.rowSize[key] + 1);
            }
            int place = state % places;
            int had = state / hadUnit;
            int shutMask = shutNow(town);
            placesSeen |= 1 << place;
            if (isGoal(place, shutMask, had)) {
                return true;
            }
            markGoing(town, state, place, had, shutMask);
            markOpening(town, state, place, had);
            return false;
        }

        private boolean isGoal(int place, int shutMask, int had) {
            switch (goalKind) {
                case TO_PLACE:
                    return place == goal;
                case TO_OPEN:
                    return ((shutMask >> goal) & 1) == 0;
                case TO_HAVE:
                    return had == (1 << wantCount) - 1;
                default:
                    return placesSeen == goal;
            }
        }

        private void markGoing(Town town, int state, int place, int had, int shutMask) {
            int row = place * CLOSED_COUNTS + Integer.bitCount(shutMask);
            if (place < 0 || place >= MOST_PLACES || row >= MOST_PLACES * CLOSED_COUNTS) {
                return;
            }
            int doors = doorsAt[place] & ~shutMask & ~barred[row];
            for (int door = 0; door < MOST_DOORS && doors >> door != 0; door++) {
                if (((doors >> door) & 1) != 0) {
                    int to = town.otherSide(door, place);
                    int more = hadAt(town, to, shutMask) & ~had;
                    mark(state + to - place + more * hadUnit);
                }
            }
        }

        private void markOpening(Town town, int state, int place, int had) {
            for (int key = 0; key < town.counts[KEYS]; key++) {
                if (unit[key] > 0 && left[key] > 0 && town.isAt(town.now.inRow(key, left[key] - 1), place)) {
                    left[key]--;
                    int more = hadAt(town, place, shutNow(town)) & ~had;
                    left[key]++;
                    mark(state - unit[key] + more * hadUnit);
                }
            }
        }

        private int shutNow(Town town) {
            int mask = shutByOthers;
            for (int key = 0; key < town.counts[KEYS] && key < MOST_KEYS; key++) {
                if (unit[key] > 0 && left[key] >= 0 && left[key] <= ROW_LIMIT) {
                    mask |= shutBy[key][left[key]];
                }
            }
            return mask;
        }

        private int hadAt(Town town, int place, int shutMask) {
            int had = 0;
            for (int want = 0; want < wantCount && want < WANTS_EACH; want++) {
                int box = wants[want] - BOX_BASE;
                if (wants[want] == PLACE_BASE + place
                        || box >= 0 && town.isAt(box, place) && ((shutMask >> box) & 1) == 0) {
                    had |= 1 << want;
                }
            }
            return had;
        }

        private void mark(int state) {
            if (state < 0 || state >= states) {
                return;
            }
            int word = state / 64;
            long bit = 1L << (state % 64);
            if ((seen[word] & bit) == 0) {
                seen[word] |= bit;
                next[word] |= bit;
            }
        }
    }

    /** Doors that must be shut by hours. */
    private static final class Hours {
        final int[] keyOf = new int[MOST_MUSTS];

        /** The first must that crosses another one, or the first one that it crosses. */
        int firstCrossing(Town town, boolean other) {
            for (int a = 0; a < town.counts[MUSTS]; a++) {
                for (int b = 0; b < town.counts[MUSTS]; b++) {
                    if (a != b && areCrossing(town, a, b)) {
                        return other ? b : a;
                    }
                }
            }
            return NONE;
        }

        /** The fewest keys; keyOf then tells the key of each must. */
        int fewestKeys(Town town) {
            for (int keys = 0; keys <= MOST_MUSTS; keys++) {
                if (giveKeys(town, 0, keys)) {
                    return keys;
                }
            }
            return NONE;
        }

        /** Goes one level deeper for each must, of which there are at most six. */
        private boolean giveKeys(Town town, int must, int keys) {
            if (must >= town.counts[MUSTS] || must >= MOST_MUSTS) {
                return true;
            }
            for (int key = 0; key < keys; key++) {
                if (canTake(town, must, key)) {
                    keyOf[must] = key;
                    if (giveKeys(town, must + 1, keys)) {
                        return true;
                    }
                }
            }
            return false;
        }

        private boolean canTake(Town town, int must, int key) {
            for (int earlier = 0; earlier < must && earlier < MOST_MUSTS; earlier++) {
                if (keyOf[earlier] == key && areCrossing(town, earlier, must)) {
                    return false;
                }
            }
            return true;
        }

        private static boolean areCrossing(Town town, int a, int b) {
            if (!town.isThere(MUSTS, a) || !town.isThere(MUSTS, b)) {
                return false;
            }
            int beginA = town.mustBegin[a];
            int endA = town.mustEnd[a];
            int beginB = town.mustBegin[b];
            int endB = town.mustEnd[b];
            if (town.mustDoor[a] == town.mustDoor[b] && beginA < endB && beginB < endA) {
                return true;
            }
            return beginA < beginB && beginB < endA && endA < endB || beginB < beginA && beginA < endB && endB < endA;
        }

        /** The must ahead of which just k others are to be locked. */
        int inOrder(Town town, int k) {
            for (int must = 0; must < town.counts[MUSTS]; must++) {
                int ahead = 0;
                for (int other = 0; other < town.counts[MUSTS]; other++) {
                    if (isAhead(town, other, must)) {
                        ahead++;
                    }
                }
                if (ahead == k) {
                    return must;
                }
            }
            return NONE;
        }

        private static boolean isAhead(Town town, int a, int b) {
            if (town.mustBegin[a] != town.mustBegin[b]) {
                return town.mustBegin[a] < town.mustBegin[b];
            }
            if (town.mustEnd[a] != town.mustEnd[b]) {
                return town.mustEnd[a] > town.mustEnd[b];
            }
            return a < b;
        }
    }

    /** A key that was found: its trials, and the rows that agree with them. */
    private static final class Found {
        static final int MOST_TRIALS = 20;
        static final int LONGEST = 3;

        final int[] triedDoor = new int[MOST_TRIALS];
        final boolean[] triedOpened = new boolean[MOST_TRIALS];
        final int[] first = new int[LONGEST];
        final int[] row = new int[LONGEST];
        int trials = 0;
        int fitting = 0;
        int firstSize = 0;
        int opening = 0;

        boolean add(int door, boolean opened) {
            if (trials < 0 || trials >= MOST_TRIALS) {
                return false;
            }
            triedDoor[trials] = door;
            triedOpened[trials] = opened;
            trials++;
            return true;
        }

        /** Goes through all rows in their order: how many fit, the first of them, how many would open the door. */
        void survey(Town town, int door) {
            fitting = 0;
            firstSize = 0;
            opening = 0;
            int rows = 1;
            for (int size = 0; size <= LONGEST; size++) {
                for (int number = 0; number < rows; number++) {
                    if (isRow(town, number, size)) {
                        weigh(size, door);
                    }
                }
                rows *= town.counts[DOORS];
            }
        }

        /** Writes the row whose doors are the digits of the number; false if they are not unlike ones that are lost. */
        private boolean isRow(Town town, int number, int size) {
            int doors = town.counts[DOORS];
            int rest = number;
            int used = 0;
            for (int k = size - 1; k >= 0 && k < LONGEST && doors > 0; k--) {
                int door = rest % doors;
                if (((town.lost >> door) & 1) == 0 || ((used >> door) & 1) != 0) {
                    return false;
                }
                used |= 1 << door;
                row[k] = door;
                rest /= doors;
            }
            return true;
        }

        private void weigh(int size, int door) {
            int left = leftOf(size);
            if (left == NONE) {
                return;
            }
            if (fitting == 0) {
                firstSize = size;
                for (int k = 0; k < LONGEST; k++) {
                    first[k] = row[k];
                }
            }
            fitting++;
            if (topOf(left) == door) {
                opening++;
            }
        }

        /** How many are left in the row behind all trials; NONE if it does not agree with them. */
        private int leftOf(int size) {
            int left = size;
            for (int trial = 0; trial < trials && trial < MOST_TRIALS; trial++) {
                if ((topOf(left) == triedDoor[trial]) != triedOpened[trial]) {
                    return NONE;
                }
                if (triedOpened[trial]) {
                    left--;
                }
            }
            return left;
        }

        private int topOf(int size) {
            return size > 0 && size <= LONGEST ? row[size - 1] : NONE;
        }
    }

    /** A watch's round. */
    private static final class Watch {
        static final int FAR = 1000000;
        static final int SETS = 1 << MOST_PLACES;

        final int[] way = new int[MOST_PLACES * MOST_PLACES];
        final int[] least = new int[SETS * MOST_PLACES];

        int minutesOf(Town town, int start, int places) {
            int count = town.counts[PLACES];
            if (!town.isThere(PLACES, start)) {
                return NONE;
            }
            measureWays(town, count);
            int all = places & ((1 << count) - 1) | 1 << start;
            int answer = walk(all, start);
            return answer < FAR ? answer : NONE;
        }

        private void measureWays(Town town, int count) {
            for (int i = 0; i < MOST_PLACES * MOST_PLACES; i++) {
                way[i] = i / MOST_PLACES == i % MOST_PLACES ? 0 : FAR;
            }
            int shutMask = town.shutMask();
            for (int door = 0; door < town.counts[DOORS]; door++) {
                if (!town.isBox(door) && ((shutMask >> door) & 1) == 0) {
                    shorten(town.first[door], town.second[door], town.minutes[door]);
                    shorten(town.second[door], town.first[door], town.minutes[door]);
                }
            }
            for (int middle = 0; middle < count; middle++) {
                for (int from = 0; from < count; from++) {
                    for (int to = 0; to < count; to++) {
                        shorten(from, to, wayOf(from, middle) + wayOf(middle, to));
                    }
                }
            }
        }

        private int wayOf(int from, int to) {
            if (from < 0 || from >= MOST_PLACES || to < 0 || to >= MOST_PLACES) {
                return FAR;
            }
            return way[from * MOST_PLACES + to];
        }

        private void shorten(int from, int to, int minutes) {
            if (from >= 0 && from < MOST_PLACES && to >= 0 && to < MOST_PLACES) {
                way[from * MOST_PLACES + to] = Math.min(way[from * MOST_PLACES + to], minutes);
            }
        }

        /** For each set of places come through and the last of them the least minutes, then back to the start. */
        private int walk(int all, int start) {
            for (int i = 0; i < SETS * MOST_PLACES && i < (all + 1) * MOST_PLACES; i++) {
                least[i] = FAR;
            }
            int lone = (1 << start) * MOST_PLACES + start;
            if (lone < 0 || lone >= SETS * MOST_PLACES) {
                return FAR;
            }
            least[lone] = 0;
            int best = FAR;
            for (int set = 0; set < SETS && set <= all; set++) {
                for (int last = 0; last < MOST_PLACES; last++) {
                    int minutes = least[set * MOST_PLACES + last];
                    if (minutes >= FAR) {
                        continue;
                    }
                    if (set == all) {
                        best = Math.min(best, minutes + wayOf(last, start));
                    }
                    walkOn(all & ~set, set, last, minutes);
                }
            }
            return best;
        }

        private void walkOn(int open, int set, int last, int minutes) {
            for (int to = 0; to < MOST_PLACES; to++) {
                if (((open >> to) & 1) != 0) {
                    int at = (set | 1 << to) * MOST_PLACES + to;
                    if (at >= 0 && at < SETS * MOST_PLACES) {
                        least[at] = Math.min(least[at], minutes + wayOf(last, to));
                    }
                }
            }
        }
    }

    /** Images: written, and read off the tape. */
    private static final class Picture {
        static final int LONGEST = MOST_PERSONS + MOST_KEYS * (2 + ROW_LIMIT) + 1;
        static final int SUM_START = 19;
        static final int SUM_MODULUS = 233;

        final int[] bytes = new int[LONGEST];
        final Standing draft = new Standing();
        int size = 0;

        int write(Town town) {
            size = 0;
            for (int person = 0; person < town.counts[PERSONS]; person++) {
                put(town.now.spot[person]);
            }
            for (int key = 0; key < town.counts[KEYS]; key++) {
                put(town.now.where[key]);
                put(town.now.rowSize[key]);
                for (int k = 0; k < town.now.rowSize[key]; k++) {
                    put(town.now.inRow(key, k));
                }
            }
            int sum = SUM_START;
            for (int k = 0; k < size && k < LONGEST; k++) {
                sum = summed(sum, bytes[k]);
            }
            put(sum);
            return size;
        }

        private void put(int octet) {
            if (size >= 0 && size < LONGEST) {
                bytes[size] = octet;
                size++;
            }
        }

        private static int summed(int sum, int octet) {
            return (3 * sum + octet) % SUM_MODULUS;
        }

        /** Takes the tape's image into the town; false, the town staying, if it is none. */
        boolean accept(Town town, Tape tape) {
            draft.copyFrom(town.now);
            int at = 0;
            for (int person = 0; person < town.counts[PERSONS]; person++) {
                int spot = tape.at(at);
                if (!town.isThere(PLACES, spot)) {
                    return false;
                }
                draft.spot[person] = spot;
                at++;
            }
            for (int key = 0; key < town.counts[KEYS]; key++) {
                if (!acceptKey(town, tape, key, at)) {
                    return false;
                }
                at += 2 + draft.rowSize[key];
            }
            if (tape.size != at + 1 || tape.at(at) != sumOf(tape, at)) {
                return false;
            }
            town.now.copyFrom(draft);
            return true;
        }

        private boolean acceptKey(Town town, Tape tape, int key, int at) {
            int where = tape.at(at);
            int rowSize = tape.at(at + 1);
            if (!isWhere(town, where) || rowSize < 0 || rowSize > ROW_LIMIT) {
                return false;
            }
            draft.where[key] = where;
            draft.rowSize[key] = 0;
            for (int k = 0; k < rowSize; k++) {
                int door = tape.at(at + 2 + k);
                if (!town.isThere(DOORS, door) || !draft.push(key, door)) {
                    return false;
                }
            }
            return true;
        }

        private static boolean isWhere(Town town, int where) {
            return town.isThere(PERSONS, where) || town.isThere(PLACES, where - PLACE_BASE)
                    || town.isBox(where - BOX_BASE) || where == BROKEN;
        }

        private static int sumOf(Tape tape, int count) {
            int sum = SUM_START;
            for (int k = 0; k < count && k < TAPE_LIMIT; k++) {
                sum = summed(sum, tape.at(k));
            }
            return sum;
        }
    }
}
