/** Promises 6 to 11 with part II of the terms: what is asked of a town, its doors, keys, rows and persons. */
final class TownEdges extends Edges {
    /** Places inn 0, lane 1, mill 2; door oak 0, box tin 1, door ash 2; keys kay 0, lob 1, moe 2; persons pat 0, quin 1. */
    private static final String BASE = "place inn;place lane;place mill;door oak inn lane 4;box tin at lane;"
            + "door ash lane mill 99;key kay in inn;key lob in tin;key moe in mill;person pat at inn;person quin at mill;";

    private TownEdges() {
    }

    static void all() {
        counts();
        letters();
        doors();
        shutOrNot();
        keys();
        rows();
        persons();
    }

    private static void counts() {
        says(6, "How many there are: 0 PLACES, 1 DOORS and BOXES, 2 KEYS, 3 PERSONS, 4 THINGS, 5 WANTS, 6 MUSTS, 7 BARS, "
                + "8 DOORS and BOXES that are SHUT, 9 that are DEAD.");
        String[] one = {"place na;", "box nb at inn;", "key nc in inn;", "person nd at inn;", "thing ne in inn;",
            "wants pat cup;", "must oak 1 2;", "bar oak when all;", "lost oak;", "lost tin;"};
        int[] counts = {3, 3, 3, 2, 1, 0, 0, 0, 0, 0};
        String text = BASE + "thing cup in inn;";
        for (int more = 0; more <= one.length; more++) {
            StackKeys x = town(text);
            for (int what = 0; what < 10; what++) {
                int lost = what >= 8 ? Math.max(0, more - 8) : 0;
                due(x.has(what), what < 8 ? counts[what] + (more > what ? 1 : 0) : lost);
            }
            text += more < one.length ? one[more] : "";
        }
        StackKeys x = town(BASE + "has pat kay;shut tin by kay;shut oak by kay;shut oak by lob;lost tin;");
        due(x.has(8), 2);
        due(x.has(9), 1);
        due(x.open(0, 0), 0);
        due(x.has(8), 2);
        due(x.snap(0), 1);
        due(x.has(9), 1);
        due(x.snap(1), 1);
        due(x.has(9), 2);
        due(x.has(8), 2);
        says(6, "NONE for others.");
        due(x.has(10), NONE);
        due(x.has(-1), NONE);
        due(x.has(LOW), NONE);
        due(x.has(HIGH), NONE);
    }

    private static void letters() {
        says(7, "Letter k of the NAME of a PLACE (kind 0), DOOR or BOX (1), KEY (2), PERSON (3), THING (4), 97 .. 122;");
        String[] names = {"azazaz", "zb", "cy", "dxdxdx", "ew"};
        StackKeys x = town("place azazaz;box zb at azazaz;key cy in zb;person dxdxdx at azazaz;thing ew in zb;");
        for (int kind = 0; kind < 5; kind++) {
            for (int k = 0; k < names[kind].length(); k++) {
                due(x.letter(kind, 0, k), names[kind].charAt(k));
            }
        }
        says(7, "NONE if there is none such.");
        for (int kind = 0; kind < 5; kind++) {
            due(x.letter(kind, 0, names[kind].length()), NONE);
            due(x.letter(kind, 0, -1), NONE);
            due(x.letter(kind, 1, 0), NONE);
            due(x.letter(kind, -1, 0), NONE);
            due(x.letter(kind, LOW, 0), NONE);
            due(x.letter(kind, HIGH, 0), NONE);
            due(x.letter(kind, 0, LOW), NONE);
            due(x.letter(kind, 0, HIGH), NONE);
            due(x.letter(kind, 0, 7), NONE);
        }
        due(x.letter(-1, 0, 0), NONE);
        due(x.letter(5, 0, 0), NONE);
        due(x.letter(LOW, 0, 0), NONE);
        due(x.letter(HIGH, 0, 0), NONE);
    }

    private static void doors() {
        says(8, "Of a DOOR or BOX: 0 its first PLACE, 1 its second one (of a BOX the same), 2 whether it is a BOX, 3 minutes "
                + "(0 of a BOX), 4 whether it is SHUT, 5 in how many ROWS it is, 6 whether it is lost, 7 whether it is DEAD.");
        StackKeys x = town(BASE + "box urn at mill;shut oak by kay;shut oak by lob;shut oak by moe;lost tin;shut urn by moe;"
                + "lost urn;");
        int[][] all = {{0, 1, 0, 4, 1, 3, 0, 0}, {1, 1, 1, 0, 1, 0, 1, 1}, {1, 2, 0, 99, 0, 0, 0, 0}, {2, 2, 1, 0, 1, 1, 1, 1}};
        for (int d = 0; d < 4; d++) {
            for (int what = 0; what < 8; what++) {
                due(x.door(d, what), all[d][what]);
            }
        }
        says(8, "NONE if there is none such, or for others.");
        for (int d = 0; d < 4; d++) {
            due(x.door(d, 8), NONE);
            due(x.door(d, -1), NONE);
            due(x.door(d, LOW), NONE);
            due(x.door(d, HIGH), NONE);
        }
        for (int what = -1; what < 9; what++) {
            due(x.door(4, what), NONE);
            due(x.door(-1, what), NONE);
            due(x.door(LOW, what), NONE);
            due(x.door(HIGH, what), NONE);
        }
    }

    private static void shutOrNot() {
        says(8, "A DOOR or BOX is SHUT, if it is in some ROW, or lost (by a key that nobody knows).");
        due(town(BASE).door(0, 4), 0);
        due(town(BASE + "shut oak by moe;").door(0, 4), 1);
        due(town(BASE + "lost oak;").door(0, 4), 1);
        due(town(BASE + "lost oak;").door(0, 5), 0);
        due(town(BASE + "lost oak;shut oak by kay;").door(0, 4), 1);
        due(town(BASE + "shut ash by kay;shut oak by kay;").door(2, 4), 1);
        StackKeys x = town(BASE + "has pat kay;shut tin by kay;shut oak by kay;shut oak by lob;");
        due(x.open(0, 0), 0);
        due(x.door(0, 4), 1);
        due(x.door(0, 5), 1);
        StackKeys y = town(BASE + "has pat kay;shut oak by kay;lost oak;");
        due(y.open(0, 0), 0);
        due(y.door(0, 4), 1);
        due(y.door(0, 5), 0);
        says(8, "A DOOR or BOX is DEAD, if it is lost, or in the ROW of a broken KEY.");
        StackKeys z = town(BASE + "shut tin by kay;shut oak by kay;shut oak by lob;lost ash;");
        int[] dead = {0, 0, 1};
        for (int d = 0; d < 3; d++) {
            due(z.door(d, 7), dead[d]);
        }
        z.snap(1);
        due(z.door(0, 7), 1);
        due(z.door(1, 7), 0);
        z.snap(0);
        due(z.door(1, 7), 1);
        due(z.has(9), 3);
    }

    private static void keys() {
        says(9, "Of a KEY: 0 where it is (as in an IMAGE), 1 how many are in its ROW, 2 its TOP (NONE without).");
        StackKeys x = town(BASE + "key nan in inn;has quin kay;shut oak by kay;shut ash by kay;shut tin by lob;");
        int[][] all = {{1, 2, 2}, {21, 1, 1}, {12, 0, NONE}, {10, 0, NONE}};
        for (int k = 0; k < 4; k++) {
            for (int what = 0; what < 3; what++) {
                due(x.key(k, what), all[k][what]);
            }
        }
        says(9, "A KEY is with a PERSON, in a PLACE, or in a BOX; or broken.");
        due(x.open(1, 0), 2);
        due(x.key(0, 1), 1);
        due(x.key(0, 2), 0);
        due(x.lay(1, 0, NONE), true);
        due(x.key(0, 0), 12);
        due(x.snap(0), 1);
        due(x.key(0, 0), 40);
        due(x.key(0, 1), 1);
        due(x.key(0, 2), 0);
        says(9, "NONE if there is none such, or for others.");
        for (int k = 0; k < 4; k++) {
            due(x.key(k, 3), NONE);
            due(x.key(k, -1), NONE);
            due(x.key(k, LOW), NONE);
            due(x.key(k, HIGH), NONE);
        }
        for (int what = -1; what < 4; what++) {
            due(x.key(4, what), NONE);
            due(x.key(-1, what), NONE);
            due(x.key(LOW, what), NONE);
            due(x.key(HIGH, what), NONE);
        }
    }

    private static void rows() {
        says(10, "What stands in a KEY's ROW at place k (0 is the one shut first);");
        says(10, "A KEY's ROW: the DOORS and BOXES that it shut and has not opened, in order; its TOP is the last one.");
        String boxes = "box a at inn;box b at inn;box c at inn;box d at inn;";
        String row = "shut d by kay;shut a by kay;shut ash by kay;shut c by kay;shut oak by kay;shut b by kay;";
        StackKeys x = town(BASE + boxes + "has pat kay;" + row);
        int[] want = {6, 3, 2, 5, 0, 4};
        for (int k = 0; k < 6; k++) {
            due(x.in(0, k), want[k]);
        }
        due(x.key(0, 2), 4);
        says(10, "NONE if there is none such.");
        due(x.in(0, 6), NONE);
        due(x.in(0, 7), NONE);
        due(x.in(0, -1), NONE);
        due(x.in(0, LOW), NONE);
        due(x.in(0, HIGH), NONE);
        due(x.open(0, 0), 4);
        due(x.in(0, 5), NONE);
        due(x.in(0, 4), 0);
        due(x.key(0, 2), 0);
        due(x.shut(0, 0, 4), 6);
        due(x.in(0, 5), 4);
        due(x.in(1, 0), NONE);
        due(x.in(3, 0), NONE);
        due(x.in(-1, 0), NONE);
        due(x.in(LOW, 0), NONE);
        due(x.in(HIGH, 0), NONE);
    }

    private static void persons() {
        says(11, "Of a PERSON: 0 its PLACE, 1 KEYS that it has (bits), 2 how many PLACES it can COME to ALONE (its own counted), "
                + "3 which ones (bits).");
        StackKeys x = town(BASE + "key nan in tin;has quin kay;has quin nan;shut oak by kay;shut ash by nan;");
        int[][] all = {{0, 0, 1, 1}, {2, 9, 3, 7}};
        for (int p = 0; p < 2; p++) {
            for (int what = 0; what < 4; what++) {
                due(x.person(p, what), all[p][what]);
            }
        }
        StackKeys eight = town("place a;place b;place c;place d;place e;place f;place g;place h;door ab a b 1;door bc b c 1;"
                + "door cd c d 1;door de d e 1;door ef e f 1;door fg f g 1;door gh g h 1;person p at h;person q at d;"
                + "key k in a;has p k;shut ab by k;lost ef;");
        due(eight.person(0, 2), 3);
        due(eight.person(0, 3), 0xe0);
        due(eight.person(1, 2), 4);
        due(eight.person(1, 3), 0x1e);
        StackKeys whole = town("place a;place b;place c;place d;place e;place f;place g;place h;door ab a b 1;door bc b c 1;"
                + "door cd c d 1;door de d e 1;door ef e f 1;door fg f g 1;door gh g h 1;person p at h;key k in a;has p k;"
                + "shut ab by k;shut gh by k;");
        due(whole.person(0, 2), 8);
        due(whole.person(0, 3), 255);
        due(town("place a;person p at a;").person(0, 2), 1);
        due(town("place a;person p at a;").person(0, 3), 1);
        says(11, "NONE if there is none such, or for others.");
        for (int p = 0; p < 2; p++) {
            due(x.person(p, 4), NONE);
            due(x.person(p, -1), NONE);
            due(x.person(p, LOW), NONE);
            due(x.person(p, HIGH), NONE);
        }
        for (int what = -1; what < 5; what++) {
            due(x.person(2, what), NONE);
            due(x.person(-1, what), NONE);
            due(x.person(LOW, what), NONE);
            due(x.person(HIGH, what), NONE);
        }
    }
}
