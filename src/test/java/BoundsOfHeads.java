import java.util.function.Supplier;

/** Boundary cases of heads and tongues: promises 16 to 23, and the terms that they use. */
final class BoundsOfHeads extends Bounds {
    private static final int[] NO_RIDDLE_OF_SOME = {-1, 7, 9, 10, MIN, MAX};
    private static final int[] NO_THING_OF_SOME = {-1, 5, 11, 12, 32, MIN, MAX};

    static void all() {
        heads();
        seconds();
        sight();
        firstSecond();
        hearsRefused();
        parts();
        partsRefused();
        blind();
        tongues();
        lacks();
        lacksRefused();
        goes();
        goesByKinds();
        goesRefused();
        nearest();
    }

    /**
     * Thing i has trait i alone, thing 3 none; word i has trait i as its sense i, and senses that no thing has;
     * word 3 has the traits 0 and 1, in that order. Saying i is of word i, and riddle i is of saying i alone.
     */
    private static MouthRiddles bySense() {
        MouthRiddles x = Fires.empty();
        for (int thing = 0; thing < 3; thing++) x.thing(1 << thing);
        x.thing(0);
        for (int word = 0; word < 3; word++) {
            for (int i = 0; i < 3; i++) x.sense(word, i == word ? word : 10 + i);
        }
        x.sense(3, 0);
        x.sense(3, 1);
        for (int word = 0; word < 4; word++) x.saying(SAYING, word, 0);
        for (int saying = 0; saying < 4; saying++) x.riddle(saying);
        return x;
    }

    private static int riddleOf(MouthRiddles x, int... sayings) {
        int riddle = x.riddle(sayings[0]);
        for (int i = 1; i < sayings.length; i++) x.more(riddle, sayings[i]);
        return riddle;
    }

    private static void heard(MouthRiddles x, int head, int riddle, int thing, int second) {
        due("hears(" + head + ", " + riddle + ", 0)", x.hears(head, riddle, 0), thing);
        due("hears(" + head + ", " + riddle + ", 1)", x.hears(head, riddle, 1), second);
    }

    // ---- promise 16

    private static void heads() {
        says(16, "A HEAD: its number.");
        MouthRiddles x = Fires.empty();
        for (int head = 0; head < 6; head++) due("head(99, 0)", x.head(99, 0), head);
        says(16, "OUTSIDE: plain, turned");
        for (int speed : new int[] {-1, 100, MIN, MAX}) {
            refused(Fires::some, "head(" + speed + ", 0)", o -> o.head(speed, 0), OUTSIDE);
            refused(Fires::some, "head(0, " + speed + ")", o -> o.head(0, speed), OUTSIDE);
            refused(Fires::empty, "head(" + speed + ", " + speed + ")", o -> o.head(speed, speed), OUTSIDE);
            refused(Fires::full, "head(" + speed + ", 99) where there are 6", o -> o.head(speed, 99), OUTSIDE);
            refused(Fires::full, "head(99, " + speed + ") where there are 6", o -> o.head(99, speed), OUTSIDE);
        }
        due("head(0, 0)", Fires.empty().head(0, 0), 0);
        due("head(99, 99)", Fires.some().head(99, 99), 3);
        says(16, "FULL");
        due("the 7th", x.head(0, 0), FULL);
        refused(Fires::full, "head(0, 0)", o -> o.head(0, 0), FULL);
        refused(Fires::full, "head(99, 99)", o -> o.head(99, 99), FULL);
    }

    // ---- promise 17

    private static void seconds() {
        says(TERMS, "HEADS (6 at most, numbered) have a SPEED for PLAIN and one for TURNED senses (seconds, 0 to 99 each), and "
            + "come to a SENSE i of a WORD in second i times the speed for TURNED ones, and that for PLAIN ones.");
        for (int plain : new int[] {0, 1, 98, 99}) {
            for (int turned : new int[] {0, 1, 98, 99}) {
                MouthRiddles x = bySense();
                for (int head = 0; head < 5; head++) x.head(50, 50);
                due("the 6th head", x.head(plain, turned), 5);
                for (int i = 0; i < 3; i++) heard(x, 5, i, i, i * turned + plain);
                heard(x, 0, 2, 2, 150);
            }
        }
        says(17, "ANSWERS of a HEAD to a RIDDLE: what = 0 the THING, 1 the second");
        MouthRiddles x = bySense();
        x.head(99, 99);
        heard(x, 0, 2, 2, 297);
        heard(x, 0, 0, 0, 99);
    }

    private static void sight() {
        says(TERMS, "At a second a HEAD sees the SENSES that it has come to: a SAYING FITS by these alone (a FIGHTING asks for "
            + "the TRAIT, not for what is seen; a KNOWN is seen in second 0).");
        MouthRiddles x = Fires.empty();
        x.thing(3);
        x.thing(2);
        x.thing(0);
        x.sense(0, 0);
        x.sense(0, 1);
        for (int kind = 0; kind < 5; kind++) x.saying(kind, 0, 1);
        x.saying(KNOWN, 9, 2);
        for (int saying = 0; saying < 6; saying++) x.riddle(saying);
        x.head(4, 10);
        heard(x, 0, SAYING, 0, 4);
        heard(x, 0, PLAIN, 0, 4);
        heard(x, 0, BORROWED, NONE, NONE);
        heard(x, 0, FIGHTING, 1, 14);
        heard(x, 0, COUNTED, 0, 4);
        heard(x, 0, KNOWN, 2, 0);
        x.saying(KNOWN, 9, 1);
        heard(x, 0, riddleOf(x, 6, BORROWED), 1, 14);
        heard(x, 0, riddleOf(x, 6, PLAIN), NONE, NONE);
        x.head(99, 99);
        heard(x, 1, KNOWN, 2, 0);
        x.head(0, 0);
        heard(x, 2, KNOWN, 2, 0);
        heard(x, 2, FIGHTING, 1, 0);
        heard(x, 2, SAYING, NONE, NONE);
    }

    private static void firstSecond() {
        says(TERMS, "It ANSWERS in the first second (0 to 600) in which just one THING is an answer: that THING; else never.");
        MouthRiddles x = bySense();
        x.head(5, 1);
        x.head(5, 0);
        x.head(0, 0);
        x.head(0, 99);
        heard(x, 0, 3, 0, 5);
        heard(x, 1, 3, NONE, NONE);
        heard(x, 2, 3, NONE, NONE);
        heard(x, 3, 3, 0, 0);
        heard(x, 1, 0, 0, 5);
        heard(x, 2, 2, 2, 0);
        says(17, "NONE: never.");
        heard(x, 0, riddleOf(x, 0, 1), NONE, NONE);
        MouthRiddles bare = Fires.empty();
        bare.saying(KNOWN, 0, 0);
        bare.saying(SAYING, 0, 0);
        bare.riddle(0);
        bare.riddle(1);
        bare.head(0, 0);
        heard(bare, 0, 0, NONE, NONE);
        heard(bare, 0, 1, NONE, NONE);
        bare.thing(0);
        heard(bare, 0, 0, 0, 0);
        heard(bare, 0, 1, NONE, NONE);
        MouthRiddles last = Fires.empty();
        last.saying(KNOWN, 0, 11);
        last.riddle(0);
        last.head(99, 99);
        for (int thing = 0; thing < 11; thing++) last.thing(1);
        heard(last, 0, 0, NONE, NONE);
        last.thing(1);
        heard(last, 0, 0, 11, 0);
    }

    private static void hearsRefused() {
        says(17, "UNKNOWN");
        refused(Fires::empty, "hears(0, 0, 0)", o -> o.hears(0, 0, 0), UNKNOWN);
        for (int head : new int[] {-1, 3, 5, 6, MIN, MAX}) {
            refused(Fires::some, "hears(" + head + ", 0, 0)", o -> o.hears(head, 0, 0), UNKNOWN);
            refused(Fires::some, "hears(" + head + ", 0, 2), outside, too", o -> o.hears(head, 0, 2), UNKNOWN);
        }
        for (int riddle : NO_RIDDLE_OF_SOME) {
            refused(Fires::some, "hears(0, " + riddle + ", 0)", o -> o.hears(0, riddle, 0), UNKNOWN);
            refused(Fires::some, "hears(0, " + riddle + ", -1), outside, too", o -> o.hears(0, riddle, -1), UNKNOWN);
        }
        refused(Fires::full, "hears(6, 0, 0)", o -> o.hears(6, 0, 0), UNKNOWN);
        refused(Fires::full, "hears(0, 10, 0)", o -> o.hears(0, 10, 0), UNKNOWN);
        says(17, "OUTSIDE");
        for (int what : new int[] {-1, 2, MIN, MAX}) {
            refused(Fires::some, "hears(0, 0, " + what + ")", o -> o.hears(0, 0, what), OUTSIDE);
            refused(Fires::full, "hears(5, 9, " + what + ")", o -> o.hears(5, 9, what), OUTSIDE);
        }
    }

    // ---- promise 18

    private static void parted(MouthRiddles x, int riddle, int pairs) {
        due("parts(0)", x.parts(0), riddle);
        due("parts(1)", x.parts(1), pairs);
    }

    private static void parts() {
        says(TERMS, "PARTS: of all RIDDLES the one by which most pairs of HEADS answer unlike THINGS (never is one, too), "
            + "of like ones the least.");
        MouthRiddles x = bySense();
        x.head(5, 0);
        x.head(6, 0);
        // Riddle 3 fits thing 0 by its plain sense and thing 1 by a turned one: who comes to both at once never answers.
        parted(x, 0, 0);
        x.head(5, 1);
        parted(x, 3, 2);
        x.riddle(3);
        parted(x, 3, 2);
        x.head(5, 1);
        x.head(5, 2);
        parted(x, 3, 6);
        x.head(7, 0);
        parted(x, 3, 9);
        says(18, "PARTS: what = 0 the RIDDLE, 1 how many pairs");
        MouthRiddles last = bySense();
        for (int riddle = 4; riddle < 9; riddle++) last.riddle(0);
        parted(last, 0, 0);
        last.head(1, 1);
        parted(last, 0, 0);
        last.saying(BORROWED, 3, 0);
        last.riddle(4);
        last.head(1, 0);
        parted(last, 3, 1);
        MouthRiddles ninth = Fires.empty();
        ninth.thing(1);
        ninth.thing(2);
        ninth.sense(0, 0);
        ninth.sense(0, 1);
        ninth.saying(KNOWN, 0, 0);
        ninth.saying(SAYING, 0, 0);
        for (int riddle = 0; riddle < 9; riddle++) ninth.riddle(0);
        ninth.riddle(1);
        ninth.head(1, 0);
        ninth.head(1, 1);
        parted(ninth, 9, 1);
    }

    private static void partsRefused() {
        says(18, "NONE: there is no RIDDLE.");
        for (int what = 0; what < 2; what++) {
            int asked = what;
            asked(Fires::empty, "parts(" + what + ")", o -> o.parts(asked), NONE);
            Supplier<MouthRiddles> headsAlone = () -> {
                MouthRiddles x = Fires.empty();
                x.head(1, 1);
                x.head(2, 2);
                return x;
            };
            asked(headsAlone, "parts(" + what + ") with heads", o -> o.parts(asked), NONE);
        }
        says(18, "OUTSIDE");
        for (int what : new int[] {-1, 2, MIN, MAX}) {
            refused(Fires::empty, "parts(" + what + ") without riddles", o -> o.parts(what), OUTSIDE);
            refused(Fires::some, "parts(" + what + ")", o -> o.parts(what), OUTSIDE);
        }
    }

    // ---- promise 19

    private static void blind() {
        says(TERMS, "BLIND: how many HEADS answer another THING than the told one, or never.");
        MouthRiddles x = bySense();
        due("without heads", x.blind(0, 0), 0);
        for (int head = 0; head < 6; head++) {
            due("head()", x.head(1, head < 2 ? 0 : 1), head);
            due("all answer the told one", x.blind(0, 0), 0);
            due("all answer another", x.blind(0, 1), head + 1);
            due("never, or another", x.blind(3, 1), head + 1);
        }
        due("two of six never answer", x.blind(3, 0), 2);
        says(19, "BLIND.");
        due("none ever answers", x.blind(riddleOf(x, 0, 1), 0), 6);
        due("a thing of no traits", x.blind(0, 3), 6);
        says(19, "UNKNOWN");
        refused(Fires::empty, "blind(0, 0)", o -> o.blind(0, 0), UNKNOWN);
        for (int riddle : NO_RIDDLE_OF_SOME) refused(Fires::some, "blind(" + riddle + ", 0)", o -> o.blind(riddle, 0), UNKNOWN);
        for (int thing : NO_THING_OF_SOME) refused(Fires::some, "blind(0, " + thing + ")", o -> o.blind(0, thing), UNKNOWN);
        refused(Fires::full, "blind(10, 0)", o -> o.blind(10, 0), UNKNOWN);
        refused(Fires::full, "blind(0, 12)", o -> o.blind(0, 12), UNKNOWN);
    }

    // ---- promise 20

    private static void tongues() {
        says(TERMS, "TONGUES (4 at most, numbered) are as the first, but for some SENSES that they lack.");
        MouthRiddles x = bySense();
        for (int tongue = 0; tongue < 4; tongue++) {
            due("tongue()", x.tongue(), tongue);
            for (int i = 0; i < 3; i++) due("goes(" + i + ")", x.goes(i, i, tongue, 0), 1);
            due("lacks", x.lack(tongue, tongue % 3, tongue % 3, true), 0);
            for (int i = 0; i < 3; i++) due("goes(" + i + "), with a lack", x.goes(i, i, tongue, 0), i == tongue % 3 ? 0 : 1);
        }
        due("the first language lacks nothing", x.answers(0), 1);
        says(20, "A TONGUE that has all SENSES: its number.");
        MouthRiddles y = Fires.some();
        y.lack(0, 0, 0, true);
        due("the third", y.tongue(), 2);
        for (int i = 0; i < 48; i++) due("lack(2, ..)", y.lack(2, i / 3, i % 3, false), 0);
        MouthRiddles z = Fires.empty();
        due("ahead of all else", z.tongue(), 0);
        z.thing(1);
        z.sense(0, 0);
        z.saying(PLAIN, 0, 0);
        z.riddle(0);
        due("it has senses that come later, too", z.goes(0, 0, 0, 0), 1);
        says(20, "FULL");
        due("the 5th", x.tongue(), FULL);
        refused(Fires::full, "the 5th", o -> o.tongue(), FULL);
    }

    // ---- promise 21

    private static void lacks() {
        says(21, "SENSE i (0 to 2) of a WORD is lacked by a TONGUE, or not: 1 if it was, else 0.");
        MouthRiddles x = Fires.empty();
        for (int tongue = 0; tongue < 4; tongue++) x.tongue();
        for (int at = 0; at < 192; at++) due("lack(.., " + (at % 5 < 2) + ")", x.lack(at / 48, at / 3 % 16, at % 3, at % 5 < 2), 0);
        for (int at = 0; at < 192; at++) due("lack(.., true)", x.lack(at / 48, at / 3 % 16, at % 3, true), at % 5 < 2 ? 1 : 0);
        due("again", x.lack(3, 15, 2, true), 1);
        due("taken back", x.lack(3, 15, 2, false), 1);
        due("taken back twice", x.lack(3, 15, 2, false), 0);
        due("the one beside it", x.lack(3, 15, 1, false), 1);
        MouthRiddles y = Fires.empty();
        y.tongue();
        due("a sense that is not there yet", y.lack(0, 0, 0, true), 0);
        y.thing(1);
        y.sense(0, 0);
        y.saying(SAYING, 0, 0);
        y.riddle(0);
        due("is lacked when it comes", y.goes(0, 0, 0, 1), 1);
        y.lack(0, 0, 0, false);
        due("until it is lacked no more", y.goes(0, 0, 0, 1), 0);
    }

    private static void lacksRefused() {
        says(21, "UNKNOWN: tongue, word");
        refused(Fires::empty, "lack(0, 0, 0, true)", o -> o.lack(0, 0, 0, true), UNKNOWN);
        for (int tongue : new int[] {-1, 2, 3, 4, MIN, MAX}) {
            refused(Fires::some, "lack(" + tongue + ", 0, 0, true)", o -> o.lack(tongue, 0, 0, true), UNKNOWN);
            refused(Fires::some, "lack(" + tongue + ", 0, 3, true), outside, too", o -> o.lack(tongue, 0, 3, true), UNKNOWN);
        }
        for (int word : new int[] {-1, 16, MIN, MAX}) {
            refused(Fires::some, "lack(0, " + word + ", 0, true)", o -> o.lack(0, word, 0, true), UNKNOWN);
            refused(Fires::full, "lack(3, " + word + ", -1, false), outside, too", o -> o.lack(3, word, -1, false), UNKNOWN);
        }
        refused(Fires::full, "lack(4, 0, 0, true)", o -> o.lack(4, 0, 0, true), UNKNOWN);
        says(21, "OUTSIDE: i");
        for (int i : new int[] {-1, 3, 32, MIN, MAX}) {
            refused(Fires::some, "lack(1, 0, " + i + ", true)", o -> o.lack(1, 0, i, true), OUTSIDE);
            refused(Fires::full, "lack(3, 15, " + i + ", false)", o -> o.lack(3, 15, i, false), OUTSIDE);
        }
    }

    // ---- promise 22

    private static void goes() {
        says(TERMS, "A RIDDLE GOES in a TONGUE for a THING, if by SENSES that it has the THING is an answer, and no other one.");
        MouthRiddles x = bySense();
        x.tongue();
        due("one answer", x.goes(0, 0, 0, 0), 1);
        due("one answer, another thing", x.goes(0, 1, 0, 0), 0);
        due("two answers", x.goes(3, 0, 0, 0), 0);
        due("two answers, the other thing", x.goes(3, 1, 0, 0), 0);
        x.lack(0, 3, 1, true);
        due("one of the two, by what the tongue has", x.goes(3, 0, 0, 0), 1);
        due("the other of the two", x.goes(3, 1, 0, 0), 0);
        x.lack(0, 3, 0, true);
        due("none", x.goes(3, 0, 0, 0), 0);
        due("none, and a thing that fits nothing", x.goes(3, 3, 0, 0), 0);
        says(TERMS, "LACKS for that: of the SAYINGS how many do not FIT the THING in it.");
        MouthRiddles y = bySense();
        y.tongue();
        for (int length = 1; length <= 6; length++) {
            if (length > 1) y.more(0, length == 4 ? 1 : 0);
            due("none of " + length + " fits", y.goes(0, 3, 0, 1), length);
            due("all but saying 1 fit", y.goes(0, 0, 0, 1), length < 4 ? 0 : 1);
        }
        y.lack(0, 0, 0, true);
        due("a saying that stands often", y.goes(0, 0, 0, 1), 6);
        due("saying 1 alone fits", y.goes(0, 1, 0, 1), 5);
        says(22, "Of a RIDDLE for a THING in a TONGUE: what = 0 whether it GOES (1, 0), 1 LACKS.");
        due("what = 0", y.goes(1, 1, 0, 0), 1);
        due("what = 1", y.goes(1, 1, 0, 1), 0);
    }

    private static void goesByKinds() {
        says(TERMS, "A RIDDLE GOES in a TONGUE for a THING");
        MouthRiddles x = Fires.empty();
        x.thing(3);
        x.thing(2);
        x.sense(0, 0);
        x.sense(0, 1);
        for (int kind = 0; kind < 6; kind++) x.saying(kind, 0, 1);
        for (int saying = 0; saying < 6; saying++) x.riddle(saying);
        for (int i = 0; i < 3; i++) x.tongue();
        x.lack(0, 0, 0, true);
        x.lack(1, 0, 1, true);
        // Without the plain sense, then without the turned one, then with both: what does not fit thing 0.
        int[][] lacks = {{0, 0, 0}, {1, 0, 0}, {0, 1, 0}, {1, 1, 1}, {0, 0, 0}, {1, 1, 1}};
        int[][] lacksOfOther = {{0, 1, 0}, {1, 1, 1}, {0, 1, 0}, {0, 1, 0}, {0, 1, 0}, {0, 0, 0}};
        for (int kind = 0; kind < 6; kind++) {
            for (int tongue = 0; tongue < 3; tongue++) {
                int ofFirst = lacks[kind][tongue], ofOther = lacksOfOther[kind][tongue];
                due("kind " + kind + ", tongue " + tongue, x.goes(kind, 0, tongue, 1), ofFirst);
                due("kind " + kind + ", tongue " + tongue + ", thing 1", x.goes(kind, 1, tongue, 1), ofOther);
                due("kind " + kind + " goes", x.goes(kind, 0, tongue, 0), ofFirst == 0 && ofOther == 1 ? 1 : 0);
                due("kind " + kind + " goes for thing 1", x.goes(kind, 1, tongue, 0), ofFirst == 1 && ofOther == 0 ? 1 : 0);
            }
        }
    }

    private static void goesRefused() {
        says(22, "UNKNOWN");
        refused(Fires::empty, "goes(0, 0, 0, 0)", o -> o.goes(0, 0, 0, 0), UNKNOWN);
        for (int riddle : NO_RIDDLE_OF_SOME) {
            refused(Fires::some, "goes(" + riddle + ", 0, 0, 0)", o -> o.goes(riddle, 0, 0, 0), UNKNOWN);
            refused(Fires::some, "goes(" + riddle + ", 0, 0, 2), outside, too", o -> o.goes(riddle, 0, 0, 2), UNKNOWN);
        }
        for (int thing : NO_THING_OF_SOME) {
            refused(Fires::some, "goes(0, " + thing + ", 0, 1)", o -> o.goes(0, thing, 0, 1), UNKNOWN);
            refused(Fires::some, "goes(0, " + thing + ", 0, -1), outside, too", o -> o.goes(0, thing, 0, -1), UNKNOWN);
        }
        for (int tongue : new int[] {-1, 2, 3, 4, MIN, MAX}) {
            refused(Fires::some, "goes(0, 0, " + tongue + ", 0)", o -> o.goes(0, 0, tongue, 0), UNKNOWN);
            refused(Fires::some, "goes(0, 0, " + tongue + ", 2), outside, too", o -> o.goes(0, 0, tongue, 2), UNKNOWN);
        }
        refused(Fires::full, "goes(10, 11, 3, 0)", o -> o.goes(10, 11, 3, 0), UNKNOWN);
        refused(Fires::full, "goes(9, 12, 3, 0)", o -> o.goes(9, 12, 3, 0), UNKNOWN);
        refused(Fires::full, "goes(9, 11, 4, 0)", o -> o.goes(9, 11, 4, 0), UNKNOWN);
        says(22, "OUTSIDE");
        for (int what : new int[] {-1, 2, MIN, MAX}) {
            refused(Fires::some, "goes(0, 0, 0, " + what + ")", o -> o.goes(0, 0, 0, what), OUTSIDE);
            refused(Fires::full, "goes(9, 11, 3, " + what + ")", o -> o.goes(9, 11, 3, what), OUTSIDE);
        }
    }

    // ---- promise 23

    private static void nearest() {
        says(TERMS, "NEAREST: of TONGUES the one of least LACKS, of like ones the least.");
        MouthRiddles x = bySense();
        x.more(0, 1);
        for (int i = 0; i < 4; i++) x.more(0, 0);
        for (int tongue = 0; tongue < 4; tongue++) x.tongue();
        due("all alike", x.nearest(0, 0), 0);
        x.lack(0, 0, 0, true);
        due("the second is the first that lacks least", x.nearest(0, 0), 1);
        x.lack(1, 0, 0, true);
        x.lack(2, 0, 0, true);
        due("the last", x.nearest(0, 0), 3);
        x.lack(3, 0, 0, true);
        due("all alike, with lacks", x.nearest(0, 0), 0);
        due("all of six lacked, in each", x.nearest(0, 3), 0);
        says(23, "NEAREST");
        x.lack(0, 1, 1, true);
        due("the only one that lacks saying 1, too", x.nearest(0, 1), 1);
        says(23, "NONE: there is no TONGUE.");
        asked(BoundsOfHeads::bySense, "nearest(0, 0)", o -> o.nearest(0, 0), NONE);
        MouthRiddles one = bySense();
        one.tongue();
        due("one tongue", one.nearest(0, 3), 0);
        says(23, "UNKNOWN");
        refused(Fires::empty, "nearest(0, 0)", o -> o.nearest(0, 0), UNKNOWN);
        refused(BoundsOfHeads::bySense, "nearest(4, 0), without a tongue, too", o -> o.nearest(4, 0), UNKNOWN);
        refused(BoundsOfHeads::bySense, "nearest(0, 4), without a tongue, too", o -> o.nearest(0, 4), UNKNOWN);
        for (int riddle : NO_RIDDLE_OF_SOME) refused(Fires::some, "nearest(" + riddle + ", 0)", o -> o.nearest(riddle, 0), UNKNOWN);
        for (int thing : NO_THING_OF_SOME) refused(Fires::some, "nearest(0, " + thing + ")", o -> o.nearest(0, thing), UNKNOWN);
        refused(Fires::full, "nearest(10, 0)", o -> o.nearest(10, 0), UNKNOWN);
        refused(Fires::full, "nearest(0, 12)", o -> o.nearest(0, 12), UNKNOWN);
    }
}
