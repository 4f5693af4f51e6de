/** Boundary cases of the page, the tree and the lands: promises 24 to 30, and the terms that they use. */
final class BoundsOfLands extends Bounds {
    private static final String FORTY = "((((((((((((((((((((((((((((((((((((((((";
    private static final String CHAIN = "(a,(b,(c,(d,(e,(f,(g,h)))))))";
    private static final String EIGHT = "((a,b,c,d),(e,f,g,h)";

    static void all() {
        letters();
        lettersOutside();
        lettersFull();
        blank();
        faultByPlace();
        faultWithoutLetters();
        faultOfFirst();
        trees();
        noTrees();
        treeAfterTree();
        variants();
        variantsRefused();
        changes();
        sure();
        sureOfMany();
        numbersOfNodes();
        changesRefused();
        chance();
        chanceOfLandsThatHaveNone();
        chanceRefused();
        chanceTwelve();
    }

    // ---- promise 24

    private static void letters() {
        says(24, "Letters come behind THE PAGE, up to eight, told by their codes in the bytes of w, the lowest byte first, "
            + "until a byte that is 0: how many THE PAGE has.");
        MouthRiddles x = Fires.empty();
        due("letters(0)", x.letters(0), 0);
        due("the least code", x.letters(1), 1);
        due("the greatest code", x.letters(126), 2);
        int size = 2;
        for (int n = 1; n <= 8; n++) {
            size += n;
            if (size <= 38) due(n + " letters", x.letters(Fires.word("abcdefgh".substring(0, n))), size);
        }
        MouthRiddles y = Fires.empty();
        y.letters(Fires.word("(a"));
        due("the lowest byte is the first", y.fault(), 2);
        due("eight of the greatest code", y.letters(0x7e7e7e7e7e7e7e7eL), 10);
        due("behind the others", y.fault(), 2);
        MouthRiddles z = Fires.empty();
        z.letters(0x0102030405060708L);
        due("digest()", z.digest(), hash(-1, -1, -1, -1, -1, -1, -1, -1, 8, 7, 6, 5, 4, 3, 2, 1, 0, 0, 0, 0, 0, 0, 0, 8, 0, 0));
    }

    private static void lettersOutside() {
        says(24, "OUTSIDE: a byte above 126, or one behind a 0 that is not 0");
        for (int place = 0; place < 8; place++) {
            long ahead = Fires.word("((((((((".substring(0, place));
            for (long code : new long[] {127, 128, 129, 254, 255}) {
                long w = ahead | code << 8 * place;
                refused(Fires::some, "code " + code + " at " + place, o -> o.letters(w), OUTSIDE);
                refused(Fires::full, "code " + code + " at " + place + ", of 40", o -> o.letters(w), OUTSIDE);
            }
            for (int later = place + 1; later < 8; later++) {
                long w = ahead | 1L << 8 * later;
                refused(Fires::empty, "a 0 at " + place + ", a letter at " + later, o -> o.letters(w), OUTSIDE);
                long v = ahead | 200L << 8 * later;
                refused(Fires::empty, "a 0 at " + place + ", 200 at " + later, o -> o.letters(v), OUTSIDE);
            }
            due("126 at " + place, Fires.empty().letters(ahead | 126L << 8 * place), place + 1);
        }
        for (long w : new long[] {-1, Long.MIN_VALUE, Long.MAX_VALUE, 1L << 56, 1L << 32, 256}) {
            refused(Fires::some, "letters(" + w + ")", o -> o.letters(w), OUTSIDE);
        }
    }

    private static void lettersFull() {
        says(24, "FULL: above 40.");
        for (int n = 1; n <= 8; n++) {
            long w = Fires.word("abcdefgh".substring(0, n));
            String upTo = FORTY.substring(n);
            due("40 with " + n + " more", Fires.ofPage(upTo).letters(w), 40);
            refused(() -> Fires.ofPage("(" + upTo), "41 with " + n + " more", o -> o.letters(w), FULL);
            refused(Fires::full, n + " above 40", o -> o.letters(w), FULL);
        }
        asked(Fires::full, "none above 40", o -> o.letters(0), 40);
        due("count(7)", Fires.full().count(7), 40);
    }

    // ---- promise 25

    private static void blank() {
        says(25, "THE PAGE is empty: how many letters it had.");
        asked(Fires::empty, "blank() of an empty page", o -> o.blank(), 0);
        MouthRiddles x = Fires.full();
        due("blank() of a full page", x.blank(), 40);
        due("blank() again", x.blank(), 0);
        due("count(7)", x.count(7), 0);
        due("fault()", x.fault(), 0);
        due("eight letters", x.letters(Fires.word("abcdefgh")), 8);
        due("the tree is still there", x.count(6), 15);
        MouthRiddles y = Fires.ofPage("i");
        due("blank() of one letter", y.blank(), 1);
        y.letters('a');
        due("what comes later stands alone", y.tree(), 1);
    }

    // ---- promise 26

    /** Tries each code behind the letters ahead: those that are told may stand there, and no others. */
    private static void next(String ahead, String allowed) {
        for (char code = 1; code <= 126; code++) {
            int place = allowed.indexOf(code) >= 0 ? ahead.length() + 1 : ahead.length();
            due("fault() of " + ahead + code, Fires.ofPage(ahead + code).fault(), place);
        }
    }

    private static void faultByPlace() {
        says(26, "The place (from 0) of the first letter of THE PAGE that no TREE");
        next("", "abcdefgh(");
        next("a", "");
        next("h", "");
        next("(", "abcdefgh(");
        next("(a", ",");
        next("(a,b", ",)");
        next("(a,b,c", ",)");
        next("(a,b,c,d", ")");
        next("(a,b)", "");
        next("((a,b)", ",");
        next("((a,b),c", ",)");
        next("(c,(a,b)", ",)");
        next("(e,(a,b,c,d)", ",)");
        next("(d,e,f,(a,b)", ")");
        next("(((a,b),c),d", ",)");
        next("((a,b),(c,d))", "");
        says(26, "has there, behind those ahead of it");
        next("(a,", "bcdefgh(");
        next("(a,b,", "cdefgh(");
        next("((a,b),", "cdefgh(");
        next("(h,(g,", "abcdef(");
        next("(a,(", "bcdefgh(");
    }

    private static void faultWithoutLetters() {
        says(26, "(of any length, as if there were letters enough, but none twice)");
        next(EIGHT, ",)");
        next(EIGHT + ",", "(");
        next(EIGHT + ",(", "(");
        next(EIGHT + ")", "");
        next("(a,b,c,(d,e,f,(g,(h", ",");
        next("(a,b,c,(d,e,f,(g,(h,", "(");
        next(FORTY.substring(1), "abcdefgh(");
        next(FORTY.substring(2) + "a", ",");
        next(FORTY.substring(4) + "a,b", ",)");
    }

    private static void faultOfFirst() {
        says(26, "how many letters it has, if there is none.");
        asked(Fires::empty, "fault() of an empty page", o -> o.fault(), 0);
        asked(Fires::some, "fault() of a page that goes on", o -> o.fault(), 5);
        due("fault() of a whole tree", Fires.ofPage(Fires.LARGEST).fault(), 29);
        due("fault() of 40", Fires.ofPage(FORTY).fault(), 40);
        says(26, "The place (from 0) of the first letter of THE PAGE that no TREE");
        asked(Fires::full, "fault() of a tree and more", o -> o.fault(), 29);
        due("several faults", Fires.ofPage("(a,a,a").fault(), 3);
        due("a fault, then a tree", Fires.ofPage("i(a,b)").fault(), 0);
        due("the last of 40", Fires.ofPage(FORTY.substring(1) + ",").fault(), 39);
    }

    // ---- promise 27

    private static void read(String text, int nodes) {
        MouthRiddles x = Fires.ofPage(text);
        due("tree() of " + text, x.tree(), nodes);
        due("count(6) of " + text, x.count(6), nodes);
    }

    private static void trees() {
        says(TERMS, "THE TREE is a text: a NODE: a letter a to h (each once at most), or \"(\", two to four NODES with \",\" between, \")\".");
        for (char land = 'a'; land <= 'h'; land++) read(String.valueOf(land), 1);
        read("(a,b)", 3);
        read("(a,b,c)", 4);
        read("(a,b,c,d)", 5);
        read(EIGHT + ")", 11);
        read("((a,b),(c,d),(e,f),(g,h))", 13);
        says(27, "THE PAGE is read as THE TREE (another one is gone): how many NODES");
        read(Fires.LARGEST, 15);
        read(CHAIN, 15);
        read("(((((((a,b),c),d),e),f),g),h)", 15);
        read("(h,g,f,e)", 5);
        says(27, "THE PAGE is empty then.");
        MouthRiddles x = Fires.ofPage(CHAIN);
        x.tree();
        due("count(7)", x.count(7), 0);
        due("blank()", x.blank(), 0);
        due("fault()", x.fault(), 0);
        due("there is room for 8 again", x.letters(Fires.word("abcdefgh")), 8);
    }

    private static void noTrees() {
        says(27, "STATE: it is none.");
        refused(Fires::empty, "tree() of an empty page", o -> o.tree(), STATE);
        refused(Fires::some, "tree() of a part", o -> o.tree(), STATE);
        refused(Fires::full, "tree() of a tree and more", o -> o.tree(), STATE);
        String[] texts = {"i", "A", "`", "(", ")", ",", "aa", "ab", "a,b", "()", "(a)", "(a", "(a,", "(a,b", "(a,b)c", "(a,b),", "(a,b))",
            "(a,a)", "(a,(b,a))", "(a,b,c,d,e)", "(a,,b)", "(,a,b)", "(a,b,)", "((a,b))", "(a b)", " (a,b)", EIGHT, EIGHT + ",i)", EIGHT + ",a)", FORTY};
        for (String text : texts) {
            refused(() -> Fires.ofPage(text), "tree() of " + text, o -> o.tree(), STATE);
            refused(() -> treeAndPage(text), "tree() of " + text + " behind a tree", o -> o.tree(), STATE);
        }
    }

    private static MouthRiddles treeAndPage(String page) {
        MouthRiddles x = Fires.ofTree("((c,a),b)", 1, 2, 2);
        Fires.write(x, page);
        return x;
    }

    private static void treeAfterTree() {
        says(27, "(another one is gone)");
        MouthRiddles x = Fires.ofTree(Fires.LARGEST, 0, 1, 2, 3, 4, 5, 6, 7);
        due("changes(0)", x.changes(0), 7);
        Fires.write(x, "(h,g)");
        due("a page is no tree yet", x.count(6), 15);
        due("fault() asks the page", x.fault(), 5);
        due("and leaves the tree", x.changes(0), 7);
        due("tree()", x.tree(), 3);
        due("changes(0) of the new one", x.changes(0), 1);
        due("changes(11)", x.changes(11), 7);
        due("changes(13)", x.changes(13), NONE);
        due("tree() of the emptied page", x.tree(), STATE);
        due("the new one stays", x.changes(12), 6);
        x.letters('c');
        due("one land", x.tree(), 1);
        due("changes(10)", x.changes(10), 2);
    }

    // ---- promise 28

    private static void variants() {
        says(TERMS, "LANDS a to h (0 to 7)");
        for (int land = 0; land < 8; land++) {
            MouthRiddles x = Fires.empty();
            x.letters('a' + land);
            x.tree();
            x.variant(land, 3);
            due("the land of letter " + (char) ('a' + land), x.changes(10), 3);
        }
        says(TERMS, "Each LAND has a VARIANT (0 to 7) of a riddle, or none (NONE; at first).");
        MouthRiddles y = Fires.empty();
        for (int land = 0; land < 8; land++) due("at first", y.variant(land, 7 - land), NONE);
        for (int land = 0; land < 8; land++) due("each its own", y.variant(land, NONE), 7 - land);
        says(28, "VARIANT of a LAND becomes v (or NONE): what it was.");
        for (int land = 0; land < 8; land += 7) {
            MouthRiddles x = Fires.empty();
            for (int v = 0; v < 8; v++) due("variant(" + land + ", " + v + ")", x.variant(land, v), v - 1);
            due("variant(" + land + ", NONE)", x.variant(land, NONE), 7);
            due("variant(" + land + ", NONE) again", x.variant(land, NONE), NONE);
            due("variant(" + land + ", 0)", x.variant(land, 0), NONE);
            due("variant(" + land + ", 0) again", x.variant(land, 0), 0);
        }
    }

    private static void variantsRefused() {
        says(28, "UNKNOWN: land");
        for (int land : new int[] {-1, 8, MIN, MAX}) {
            refused(Fires::some, "variant(" + land + ", 0)", o -> o.variant(land, 0), UNKNOWN);
            refused(Fires::full, "variant(" + land + ", 8), outside, too", o -> o.variant(land, 8), UNKNOWN);
            refused(Fires::empty, "variant(" + land + ", -2), outside, too", o -> o.variant(land, -2), UNKNOWN);
        }
        says(28, "OUTSIDE");
        for (int v : new int[] {-2, 8, MIN, MAX}) {
            refused(Fires::empty, "variant(0, " + v + ")", o -> o.variant(0, v), OUTSIDE);
            refused(Fires::full, "variant(7, " + v + ")", o -> o.variant(7, v), OUTSIDE);
        }
    }

    // ---- promise 29

    private static void sures(MouthRiddles x, int least, int... sure) {
        due("changes(0)", x.changes(0), least);
        for (int node = 0; node < sure.length; node++) due("changes(" + (10 + node) + ")", x.changes(10 + node), sure[node]);
        for (int node = sure.length; node < 30; node++) due("changes(" + (10 + node) + "), no node", x.changes(10 + node), NONE);
    }

    private static void changes() {
        says(TERMS, "CHANGES: a VARIANT is given to each inner NODE, and to LANDS that have none; for each NODE but the whole one "
            + "a change, if it has another one than that above it: LEAST CHANGES, over all ways.");
        due("one land without a variant", Fires.ofTree("a").changes(0), 0);
        due("one land with one", Fires.ofTree("a", 7).changes(0), 0);
        due("no land has one", Fires.ofTree(CHAIN).changes(0), 0);
        due("lands that are not of the tree", Fires.ofTree("(a,b)", NONE, NONE, 1, 2, 3, 4, 5, 6).changes(0), 0);
        due("two unlike ones", Fires.ofTree("(a,b)", 0, 7).changes(0), 1);
        due("one has none", Fires.ofTree("(a,b)", 0, NONE).changes(0), 0);
        due("four unlike ones", Fires.ofTree("(a,b,c,d)", 0, 1, 2, 3).changes(0), 3);
        says(29, "LEAST CHANGES (what = 0)");
        for (String text : new String[] {CHAIN, Fires.LARGEST, EIGHT + ")"}) {
            due("eight unlike ones, " + text, Fires.ofTree(text, 0, 1, 2, 3, 4, 5, 6, 7).changes(0), 7);
            due("eight like ones, " + text, Fires.ofTree(text, 7, 7, 7, 7, 7, 7, 7, 7).changes(0), 0);
        }
        due("each second one, side by side", Fires.ofTree(Fires.LARGEST, 0, 1, 0, 1, 0, 1, 0, 1).changes(0), 4);
        due("pairs", Fires.ofTree(Fires.LARGEST, 1, 1, 2, 2, 1, 1, 2, 2).changes(0), 2);
    }

    private static void sure() {
        says(TERMS, "SURE of a NODE: the VARIANT that it has in all ways of LEAST CHANGES, NONE if there are several.");
        sures(Fires.ofTree("a"), 0, NONE);
        for (int v = 0; v < 8; v++) sures(Fires.ofTree("a", v), 0, v);
        sures(Fires.ofTree("(a,b)"), 0, NONE, NONE, NONE);
        sures(Fires.ofTree("(a,b)", NONE, 0), 0, 0, 0, 0);
        sures(Fires.ofTree("(a,b)", 7, 0), 1, NONE, 7, 0);
        sures(Fires.ofTree("(a,b,c)", 7, 0, 7), 1, 7, 7, 0, 7);
        sures(Fires.ofTree("(a,b,c)", 7, 0, NONE), 1, NONE, 7, 0, NONE);
        sures(Fires.ofTree("((a,b),c)", 1, 2, 2), 1, 2, 2, 1, 2, 2);
        sures(Fires.ofTree("((a,b),(c,d))", 1, 1, 2, 2), 1, NONE, 1, 1, 1, 2, 2, 2);
        sures(Fires.ofTree("((a,b),(c,d))", 1, 1, NONE, NONE), 0, 1, 1, 1, 1, 1, 1, 1);
        sures(Fires.ofTree("((a,b),(c,d))", 1, 2, 1, 2), 2, NONE, NONE, 1, 2, NONE, 1, 2);
        says(29, "10 and i: SURE of NODE i");
        sures(Fires.ofTree(CHAIN, 5, 5, 5, 5, 5, 5, 5, NONE), 0, 5, 5, 5, 5, 5, 5, 5, 5, 5, 5, 5, 5, 5, 5, 5);
        sures(Fires.ofTree(Fires.LARGEST, 0, 1, 2, 3, 4, 5, 6, 7), 7, NONE, NONE, NONE, 0, 1, NONE, 2, 3, NONE, NONE, 4, 5, NONE, 6, 7);
    }

    /** Trees of eight lands, some without a variant; what is sure was worked out by a program apart from this one. */
    private static void sureOfMany() {
        says(TERMS, "SURE of a NODE: the VARIANT that it has in all ways of LEAST CHANGES");
        sures(Fires.ofTree(Fires.LARGEST, 3, 0, 3, NONE, 2, 2, NONE, 1), 3, NONE, 3, 3, 3, 0, 3, 3, 3, NONE, 2, 2, 2, NONE, NONE, 1);
        sures(Fires.ofTree(Fires.LARGEST, 1, 0, 0, 0, 1, NONE, 1, 0), 3, NONE, NONE, NONE, 1, 0, 0, 0, 0, NONE, NONE, 1, NONE, NONE, 1, 0);
        sures(Fires.ofTree(Fires.LARGEST, 0, 0, 1, 0, 0, 0, NONE, 0), 1, 0, 0, 0, 0, 0, 0, 1, 0, 0, 0, 0, 0, 0, 0, 0);
        sures(Fires.ofTree(CHAIN, 2, 1, 1, NONE, NONE, 2, 2, 1), 3, NONE, 2, NONE, 1, NONE, 1, NONE, NONE, NONE, NONE, NONE, 2, NONE, 2, 1);
        sures(Fires.ofTree(CHAIN, 1, 1, 0, 1, 0, 0, 0, 0), 2, 1, 1, 1, 1, NONE, 0, NONE, 1, 0, 0, 0, 0, 0, 0, 0);
        sures(Fires.ofTree(CHAIN, NONE, 1, 2, 0, 0, 1, NONE, 1), 3, NONE, NONE, NONE, 1, NONE, 2, NONE, 0, NONE, 0, 1, 1, 1, 1, 1);
        sures(Fires.ofTree(EIGHT + ")", 2, 0, 0, NONE, 0, 1, 1, 1), 3, NONE, 0, 2, 0, 0, 0, 1, 0, 1, 1, 1);
        sures(Fires.ofTree(EIGHT + ")", 1, 1, 1, 0, 1, 0, 0, 0), 3, NONE, 1, 1, 1, 1, 0, 0, 1, 0, 0, 0);
        sures(Fires.ofTree(EIGHT + ")", 1, NONE, 3, NONE, 0, 1, NONE, 3), 3, NONE, NONE, 1, NONE, 3, NONE, NONE, 0, 1, NONE, 3);
        sures(Fires.ofTree("((a,(b,c)),(d,e,(f,(g,h))))", 1, 2, 0, 2, NONE, 2, NONE, 1), 3, 2, 2, 1, 2, 2, 0, 2, 2, 2, 2, 2, NONE, NONE, 1);
        sures(Fires.ofTree("((a,(b,c)),(d,e,(f,(g,h))))", 1, 0, NONE, 0, 0, 1, 1, 1), 2, 0, 0, 1, 0, 0, 0, 0, 0, 0, 1, 1, 1, 1, 1);
        sures(Fires.ofTree("((a,(b,c)),(d,e,(f,(g,h))))", 3, 2, 0, 0, 3, NONE, 1, 0), 4, 0, 0, 3, 0, 2, 0, 0, 0, 3, 0, 0, 0, 1, 0);
    }

    private static void numbersOfNodes() {
        says(TERMS, "NODES are numbered as they begin in the text, from 0.");
        sures(Fires.ofTree("((h,c),(b,(g,a)),e)", 0, 1, 2, 3, 4, 5, 6, 7), 5, NONE, NONE, 7, 2, NONE, 1, NONE, 6, 0, 4);
        sures(Fires.ofTree(CHAIN, 0, 1, 2, 3, 4, 5, 6, 7), 7, NONE, 0, NONE, 1, NONE, 2, NONE, 3, NONE, 4, NONE, 5, NONE, 6, 7);
        says(29, "NONE (there is no such NODE, too).");
        MouthRiddles x = Fires.ofTree("a", 4);
        due("the only node", x.changes(10), 4);
        for (int what = 11; what <= 39; what++) due("changes(" + what + ")", x.changes(what), NONE);
        MouthRiddles y = Fires.ofTree(CHAIN, 4, 4, 4, 4, 4, 4, 4, 4);
        due("the last of 15 nodes", y.changes(24), 4);
        due("a 16th", y.changes(25), NONE);
        due("a 30th", y.changes(39), NONE);
        Fires.write(y, "(a,b)");
        y.tree();
        due("the last of 3 nodes", y.changes(12), 4);
        due("a node that only the tree before had", y.changes(13), NONE);
    }

    private static void changesRefused() {
        says(29, "OUTSIDE: what (10 to 39 else)");
        for (int what : new int[] {-1, 1, 2, 3, 4, 5, 6, 7, 8, 9, 40, 41, MIN, MAX}) {
            refused(Fires::some, "changes(" + what + ")", o -> o.changes(what), OUTSIDE);
            refused(Fires::empty, "changes(" + what + ") without a tree", o -> o.changes(what), OUTSIDE);
        }
        says(29, "STATE: there is no TREE.");
        for (int what : new int[] {0, 10, 11, 24, 39}) {
            refused(Fires::empty, "changes(" + what + ")", o -> o.changes(what), STATE);
            refused(() -> Fires.ofPage("(a,b)"), "changes(" + what + ") of a page", o -> o.changes(what), STATE);
            refused(() -> faulted("a"), "changes(" + what + ") behind fault()", o -> o.changes(what), STATE);
        }
    }

    /** The page has been asked for its fault, which is no reading of it as a tree. */
    private static MouthRiddles faulted(String page) {
        MouthRiddles x = Fires.ofPage(page);
        x.fault();
        return x;
    }

    // ---- promise 30

    private static void share(String text, int above, int below, int... variants) {
        MouthRiddles x = Fires.ofTree(text, variants);
        due("chance(0) of " + text, x.chance(0), above);
        due("chance(1) of " + text, x.chance(1), below);
    }

    private static void chance() {
        says(30, "BY CHANCE, in lowest terms: part 0 above, 1 below.");
        share("((a,b),(c,d))", 1, 3, 1, 1, 2, 2);
        share("((a,b),c,d)", 1, 3, 1, 1, 2, 2);
        share("((a,b),(c,d),e)", 1, 5, 1, 1, 2, 2, 2);
        share("((a,b,c),(d,e))", 1, 10, 1, 1, 1, 2, 2);
        share(EIGHT + ")", 1, 35, 1, 1, 1, 1, 2, 2, 2, 2);
        share("((a,b),(c,d),(e,f),(g,h))", 1, 105, 3, 3, 4, 4, 5, 5, 6, 6);
        share("((a,b),(c,d,e,f))", 1, 15, 1, 1, 2, 2, 2, 3);
        share(CHAIN, 3, 280, 0, 0, 0, 1, 1, 1, 2, 2);
        share(Fires.LARGEST, 3, 35, 1, 1, 2, 2, 1, 1, 2, 2);
        // Any order of these has as few changes or fewer.
        share(Fires.LARGEST, 1, 1, 0, 1, 0, 1, 0, 1, 0, 1);
        share("((a,b),(c,d))", 1, 1, 1, 2, 1, 2);
        share(CHAIN, 1, 1, 0, 1, 2, 3, 4, 5, 6, 7);
        share(CHAIN, 1, 1, 7, 7, 7, 7, 7, 7, 7, 7);
        share("a", 1, 1, 0);
        share("(a,b)", 1, 1, 0, 7);
    }

    private static void chanceOfLandsThatHaveNone() {
        says(TERMS, "BY CHANCE: of all ways to deal the VARIANTS that LANDS of THE TREE have among these LANDS (those that have none "
            + "stay so; as many ways as there are orders) the share with as few LEAST CHANGES.");
        share("((a,b),c,d,e)", 1, 3, 1, 1, NONE, 2, 2);
        share("((a,b,c),(d,e))", 1, 3, NONE, 1, 1, 2, 2);
        share("((a,b),(c,d))", 1, 3, 1, 1, 2, 2, 1, 2, 3, 4);
        share("a", 1, 1);
        share(CHAIN, 1, 1);
        share("(a,b)", 1, 1, NONE, NONE, 1, 2, 3);
        share("((a,b),(c,d))", 1, 1, 5);
        MouthRiddles x = Fires.ofTree("((a,b),(c,d))", 1, 1, 2, 2);
        x.chance(0);
        for (int land = 0; land < 4; land++) due("the lands keep theirs", x.variant(land, NONE), land < 2 ? 1 : 2);
    }

    private static void chanceRefused() {
        says(30, "OUTSIDE");
        for (int part : new int[] {-1, 2, MIN, MAX}) {
            refused(Fires::some, "chance(" + part + ")", o -> o.chance(part), OUTSIDE);
            refused(Fires::empty, "chance(" + part + ") without a tree", o -> o.chance(part), OUTSIDE);
            refused(Fires::full, "chance(" + part + "), done 12 times", o -> o.chance(part), OUTSIDE);
        }
        says(30, "STATE: there is no TREE, or");
        for (int part = 0; part < 2; part++) {
            int asked = part;
            refused(Fires::empty, "chance(" + part + ")", o -> o.chance(asked), STATE);
            refused(() -> Fires.ofPage("(a,b)"), "chance(" + part + ") of a page", o -> o.chance(asked), STATE);
            refused(() -> faulted("a"), "chance(" + part + ") behind fault()", o -> o.chance(asked), STATE);
        }
    }

    private static void chanceTwelve() {
        says(30, "it was done 12 times.");
        refused(Fires::full, "chance(0), the 13th time", o -> o.chance(0), STATE);
        refused(Fires::full, "chance(1), the 13th time", o -> o.chance(1), STATE);
        MouthRiddles x = Fires.empty();
        due("without a tree it is not done", x.chance(0), STATE);
        Fires.write(x, "((a,b),(c,d))");
        x.tree();
        for (int land = 0; land < 4; land++) x.variant(land, land / 2);
        for (int i = 0; i < 12; i++) {
            due("chance(2), outside", x.chance(2), OUTSIDE);
            due("count(9) ahead of chance()", x.count(9), i);
            due("chance()", x.chance(i / 6), i < 6 ? 1 : 3);
        }
        due("the 13th time", x.chance(0), STATE);
        due("count(9)", x.count(9), 12);
        x.letters('a');
        x.tree();
        due("another tree makes no new start", x.chance(0), STATE);
        due("another object's first time", Fires.ofTree("a").chance(1), 1);
    }
}
