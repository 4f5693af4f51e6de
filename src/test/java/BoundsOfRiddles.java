/** Boundary cases of riddles: promises 8 to 15, and the terms that they use. */
final class BoundsOfRiddles extends Bounds {
    private static final int[] NO_RIDDLE_OF_SOME = {-1, 7, 9, 10, MIN, MAX};
    private static final int[] NO_THING_OF_SOME = {-1, 5, 11, 12, 32, MIN, MAX};

    static void all() {
        riddles();
        longerOnes();
        rowsToldBack();
        answers();
        turns();
        judge();
        judgeRefused();
        astray();
        astrayRefused();
        made();
        madeOfLikeOnes();
        madeOfTwenty();
        madeOfMostTurns();
        madeRefused();
        madeTwenty();
    }

    /** Sayings of all kinds (numbered as these) with word 0 of senses 0, 1, 2; thing t has the traits of t's bits. */
    private static MouthRiddles kinds(int things) {
        MouthRiddles x = Fires.empty();
        for (int traits = 0; traits < things; traits++) x.thing(traits);
        for (int trait = 0; trait < 3; trait++) x.sense(0, trait);
        for (int kind = 0; kind < 6; kind++) x.saying(kind, 0, 2);
        return x;
    }

    private static int riddleOf(MouthRiddles x, int... sayings) {
        int riddle = x.riddle(sayings[0]);
        for (int i = 1; i < sayings.length; i++) x.more(riddle, sayings[i]);
        return riddle;
    }

    // ---- promise 8

    private static void riddles() {
        says(TERMS, "RIDDLES (10 at most, numbered): rows of one to six SAYINGS.");
        MouthRiddles x = kinds(4);
        for (int riddle = 0; riddle < 10; riddle++) due("riddle()", x.riddle(riddle % 6), riddle);
        due("the 11th", x.riddle(0), FULL);
        for (int length = 2; length <= 6; length++) due("more(9, 0)", x.more(9, 0), length);
        due("a 7th saying", x.more(9, 0), FULL);
        says(8, "A RIDDLE of one SAYING: its number.");
        MouthRiddles y = Fires.some();
        due("riddle(6)", y.riddle(6), 7);
        due("said(7, 0)", y.said(7, 0), 6);
        due("said(7, 1)", y.said(7, 1), NONE);
        says(8, "UNKNOWN");
        refused(Fires::empty, "riddle(0)", o -> o.riddle(0), UNKNOWN);
        for (int saying : new int[] {-1, 7, 19, 20, MIN, MAX}) {
            refused(Fires::some, "riddle(" + saying + ")", o -> o.riddle(saying), UNKNOWN);
        }
        for (int saying : new int[] {-1, 20, MIN, MAX}) {
            refused(Fires::full, "riddle(" + saying + ") where there are 10", o -> o.riddle(saying), UNKNOWN);
        }
        says(8, "FULL");
        refused(Fires::full, "the 11th", o -> o.riddle(0), FULL);
        refused(Fires::full, "the 11th of the last saying", o -> o.riddle(19), FULL);
    }

    // ---- promise 9

    private static void longerOnes() {
        says(9, "A SAYING comes to a RIDDLE, behind the others: how many.");
        MouthRiddles x = kinds(4);
        x.riddle(5);
        for (int length = 2; length <= 6; length++) due("more(0, " + (6 - length) + ")", x.more(0, 6 - length), length);
        for (int i = 0; i < 6; i++) due("said(0, " + i + ")", x.said(0, i), 5 - i);
        due("the same saying again", Fires.some().more(0, 0), 3);
        says(9, "UNKNOWN");
        refused(Fires::empty, "more(0, 0)", o -> o.more(0, 0), UNKNOWN);
        for (int riddle : NO_RIDDLE_OF_SOME) refused(Fires::some, "more(" + riddle + ", 0)", o -> o.more(riddle, 0), UNKNOWN);
        for (int saying : new int[] {-1, 7, 19, 20, MIN, MAX}) {
            refused(Fires::some, "more(0, " + saying + ")", o -> o.more(0, saying), UNKNOWN);
        }
        refused(Fires::full, "more(0, 20), where it has 6", o -> o.more(0, 20), UNKNOWN);
        refused(Fires::full, "more(9, -1), where it has 6", o -> o.more(9, -1), UNKNOWN);
        refused(Fires::full, "more(10, 0)", o -> o.more(10, 0), UNKNOWN);
        says(9, "FULL: it has 6.");
        refused(Fires::full, "more(0, 0)", o -> o.more(0, 0), FULL);
        refused(Fires::full, "more(9, 19)", o -> o.more(9, 19), FULL);
        due("one that has 1, beside those of 6", Fires.full().more(1, 19), 2);
        MouthRiddles five = kinds(4);
        riddleOf(five, 0, 0, 0, 0, 0);
        due("the 6th", five.more(0, 5), 6);
        due("the 7th", five.more(0, 5), FULL);
    }

    // ---- promise 10

    private static void rowsToldBack() {
        says(10, "The i-th SAYING of a RIDDLE");
        MouthRiddles x = Fires.full();
        for (int i = 1; i < 6; i++) due("said(0, " + i + ")", x.said(0, i), 2 * i);
        for (int riddle = 0; riddle < 10; riddle++) due("said(" + riddle + ", 0)", x.said(riddle, 0), 2 * riddle + 1);
        says(10, "NONE");
        asked(Fires::some, "said(1, 1), of one", o -> o.said(1, 1), NONE);
        asked(Fires::some, "said(0, 2), of two", o -> o.said(0, 2), NONE);
        asked(Fires::full, "said(0, 6), of six", o -> o.said(0, 6), NONE);
        for (int i : new int[] {-1, 7, MIN, MAX}) asked(Fires::some, "said(1, " + i + ")", o -> o.said(1, i), NONE);
        asked(Fires::some, "said(1, -1), with a riddle of two ahead", o -> o.said(1, -1), NONE);
        says(10, "UNKNOWN: riddle");
        refused(Fires::empty, "said(0, 0)", o -> o.said(0, 0), UNKNOWN);
        for (int riddle : NO_RIDDLE_OF_SOME) {
            refused(Fires::some, "said(" + riddle + ", 0)", o -> o.said(riddle, 0), UNKNOWN);
            refused(Fires::some, "said(" + riddle + ", -1)", o -> o.said(riddle, -1), UNKNOWN);
        }
        refused(Fires::full, "said(10, 6)", o -> o.said(10, 6), UNKNOWN);
    }

    // ---- promise 11

    private static void answers() {
        says(TERMS, "A THING is AN ANSWER, if all of them FIT it.");
        MouthRiddles x = kinds(8);
        riddleOf(x, SAYING);
        due("of one saying", x.answers(0), 0b11111110);
        x.more(0, BORROWED);
        due("of two", x.answers(0), 0b11111100);
        x.more(0, FIGHTING);
        due("of three", x.answers(0), 0b01010100);
        x.more(0, COUNTED);
        due("of four", x.answers(0), 0b01000000);
        x.more(0, COUNTED);
        due("of five, one twice", x.answers(0), 0b01000000);
        x.more(0, PLAIN);
        due("of six, of which two never agree", x.answers(0), 0);
        says(11, "ANSWERS, as bits of THINGS.");
        MouthRiddles y = Fires.empty();
        y.saying(SAYING, 0, 0);
        y.riddle(0);
        due("without things", y.answers(0), 0);
        for (int thing = 0; thing < 12; thing++) y.thing(1);
        due("a word without senses", y.answers(0), 0);
        y.sense(0, 0);
        due("all twelve", y.answers(0), 4095);
        y.saying(KNOWN, 0, 11);
        y.more(0, 1);
        due("the last of twelve", y.answers(0), 2048);
        says(11, "UNKNOWN");
        refused(Fires::empty, "answers(0)", o -> o.answers(0), UNKNOWN);
        for (int riddle : NO_RIDDLE_OF_SOME) refused(Fires::some, "answers(" + riddle + ")", o -> o.answers(riddle), UNKNOWN);
        refused(Fires::full, "answers(10)", o -> o.answers(10), UNKNOWN);
    }

    // ---- promise 12

    private static void turns() {
        says(TERMS, "TURNS of an answer: of how many of its SAYINGS BY is a TURNED sense.");
        MouthRiddles x = kinds(8);
        riddleOf(x, SAYING);
        due("by sense 0", x.turns(0, 1), 0);
        due("by sense 1", x.turns(0, 2), 1);
        due("by sense 2", x.turns(0, 4), 1);
        due("by the least of several", x.turns(0, 7), 0);
        for (int length = 2; length <= 6; length++) {
            x.more(0, BORROWED);
            due(length + " sayings, all turned", x.turns(0, 6), length);
            due(length + " sayings, all turned but one", x.turns(0, 7), length - 1);
        }
        says(12, "TURNS of a THING");
        MouthRiddles y = kinds(8);
        riddleOf(y, KNOWN, KNOWN);
        due("a known is by sense 0", y.turns(0, 2), 0);
        y.more(0, FIGHTING);
        due("with a fighting", y.turns(0, 2), 1);
        says(12, "NONE: it is no answer.");
        due("another than the known one", y.turns(0, 6), NONE);
        MouthRiddles z = kinds(8);
        riddleOf(z, BORROWED, BORROWED, PLAIN);
        due("the last saying does not fit", z.turns(0, 6), NONE);
        asked(Fires::some, "turns(0, 3)", o -> o.turns(0, 3), NONE);
        says(12, "UNKNOWN");
        refused(Fires::empty, "turns(0, 0)", o -> o.turns(0, 0), UNKNOWN);
        for (int riddle : NO_RIDDLE_OF_SOME) refused(Fires::some, "turns(" + riddle + ", 0)", o -> o.turns(riddle, 0), UNKNOWN);
        for (int thing : NO_THING_OF_SOME) refused(Fires::some, "turns(0, " + thing + ")", o -> o.turns(0, thing), UNKNOWN);
        refused(Fires::full, "turns(9, 12)", o -> o.turns(9, 12), UNKNOWN);
    }

    // ---- promise 13

    private static void judge() {
        says(TERMS, "THE JUDGE of two THINGS: of answers the one of fewer TURNS, of like ones the lesser; "
            + "one that is an answer ahead of one that is none.");
        MouthRiddles x = kinds(8);
        riddleOf(x, SAYING);
        due("fewer turns, the lesser thing", x.judge(0, 1, 2), 1);
        due("fewer turns, the lesser thing, told last", x.judge(0, 2, 1), 1);
        due("fewer turns, the greater thing", x.judge(0, 2, 3), 3);
        due("fewer turns, the greater thing, told first", x.judge(0, 3, 2), 3);
        due("like ones", x.judge(0, 2, 4), 2);
        due("like ones, the greater first", x.judge(0, 4, 2), 2);
        due("no answer and one", x.judge(0, 0, 4), 4);
        due("one and no answer", x.judge(0, 4, 0), 4);
        says(13, "THE JUDGE of two THINGS");
        due("one thing twice", x.judge(0, 6, 6), 6);
        riddleOf(x, KNOWN);
        due("the greater is an answer", x.judge(1, 1, 2), 2);
        due("the lesser is an answer", x.judge(1, 3, 2), 2);
    }

    private static void judgeRefused() {
        says(13, "NONE: neither is an answer.");
        asked(Fires::some, "judge(5, 0, 1)", o -> o.judge(5, 0, 1), NONE);
        asked(Fires::some, "judge(0, 3, 3)", o -> o.judge(0, 3, 3), NONE);
        says(13, "UNKNOWN");
        refused(Fires::empty, "judge(0, 0, 0)", o -> o.judge(0, 0, 0), UNKNOWN);
        for (int riddle : NO_RIDDLE_OF_SOME) refused(Fires::some, "judge(" + riddle + ", 0, 1)", o -> o.judge(riddle, 0, 1), UNKNOWN);
        for (int thing : NO_THING_OF_SOME) {
            refused(Fires::some, "judge(0, " + thing + ", 0)", o -> o.judge(0, thing, 0), UNKNOWN);
            refused(Fires::some, "judge(0, 0, " + thing + ")", o -> o.judge(0, 0, thing), UNKNOWN);
            refused(Fires::some, "judge(0, 3, " + thing + "), where the other is none", o -> o.judge(0, 3, thing), UNKNOWN);
        }
        refused(Fires::full, "judge(0, 11, 12)", o -> o.judge(0, 11, 12), UNKNOWN);
    }

    // ---- promise 14

    private static void led(MouthRiddles x, int riddle, int place, int things) {
        due("astray(" + riddle + ", 0)", x.astray(riddle, 0), place);
        due("astray(" + riddle + ", 1)", x.astray(riddle, 1), things);
    }

    private static void astray() {
        says(TERMS, "LEADS ASTRAY: of the SAYINGS of a RIDDLE (those that stand twice, too) the one without which "
            + "most THINGS are answers, of like ones the first.");
        MouthRiddles x = kinds(8);
        led(x, riddleOf(x, PLAIN, FIGHTING), 1, 4);
        led(x, riddleOf(x, PLAIN, COUNTED), 0, 4);
        led(x, riddleOf(x, FIGHTING, FIGHTING, PLAIN), 2, 3);
        led(x, riddleOf(x, FIGHTING, PLAIN, PLAIN), 0, 4);
        led(x, riddleOf(x, FIGHTING, PLAIN, FIGHTING, PLAIN), 0, 0);
        led(x, riddleOf(x, SAYING, PLAIN), 1, 7);
        led(x, riddleOf(x, SAYING, SAYING, SAYING, SAYING, SAYING, KNOWN), 5, 7);
        says(14, "LEADS ASTRAY: what = 0 which of its SAYINGS (from 0), 1 how many THINGS are answers without it.");
        led(x, riddleOf(x, KNOWN), 0, 8);
        led(x, riddleOf(x, BORROWED, BORROWED), 0, 6);
        MouthRiddles bare = kinds(0);
        led(bare, riddleOf(bare, SAYING, PLAIN), 0, 0);
        MouthRiddles most = kinds(12);
        led(most, riddleOf(most, KNOWN), 0, 12);
    }

    private static void astrayRefused() {
        says(14, "UNKNOWN");
        refused(Fires::empty, "astray(0, 0)", o -> o.astray(0, 0), UNKNOWN);
        for (int riddle : NO_RIDDLE_OF_SOME) {
            refused(Fires::some, "astray(" + riddle + ", 0)", o -> o.astray(riddle, 0), UNKNOWN);
            refused(Fires::some, "astray(" + riddle + ", 2), outside, too", o -> o.astray(riddle, 2), UNKNOWN);
        }
        refused(Fires::full, "astray(10, -1), outside, too", o -> o.astray(10, -1), UNKNOWN);
        says(14, "OUTSIDE");
        for (int what : new int[] {-1, 2, MIN, MAX}) refused(Fires::some, "astray(0, " + what + ")", o -> o.astray(0, what), OUTSIDE);
        asked(Fires::some, "astray(1, 0)", o -> o.astray(1, 0), 0);
        asked(Fires::some, "astray(1, 1)", o -> o.astray(1, 1), 5);
    }

    // ---- promise 15

    /** Saying i leaves out thing i alone, so that a thing is alone only behind the sayings of all others. */
    private static MouthRiddles needing(int sayings) {
        MouthRiddles x = Fires.empty();
        int all = (1 << sayings + 1) - 1;
        for (int thing = 0; thing <= sayings; thing++) x.thing(all ^ 1 << thing);
        for (int word = 0; word <= sayings; word++) {
            x.sense(word, word);
            x.saying(SAYING, word, 0);
        }
        return x;
    }

    private static void made() {
        says(15, "MADE for a THING of k (1 to 6) SAYINGS at most: the set, as bits");
        for (int needed = 1; needed <= 6; needed++) {
            for (int k = 1; k <= 6; k++) {
                int set = (1 << needed) - 1;
                due(needed + " are needed, " + k + " at most", needing(needed).made(needed, k), k < needed ? NONE : set);
            }
        }
        due("seven are needed", needing(7).made(7, 6), NONE);
        MouthRiddles last = Fires.empty();
        last.thing(1);
        last.thing(2);
        for (int i = 0; i < 19; i++) last.saying(COUNTED, 0, 1);
        last.saying(KNOWN, 0, 1);
        due("the last of 20 sayings", last.made(1, 1), 1 << 19);
        says(15, "NONE: there is none.");
        MouthRiddles x = Fires.empty();
        x.thing(1);
        due("without sayings", x.made(0, 6), NONE);
        x.saying(SAYING, 0, 0);
        due("the only thing, which no saying fits", x.made(0, 6), NONE);
        x.sense(0, 0);
        due("the only thing, which one fits", x.made(0, 6), 1);
        x.thing(1);
        due("two things alike", x.made(0, 6), NONE);
    }

    private static void madeOfLikeOnes() {
        says(TERMS, "MADE for a THING, of k SAYINGS at most: of all sets of told SAYINGS (one at least) for which it is "
            + "the only THING that all FIT, one of fewest; of like ones of most TURNS; of like ones of least bits.");
        MouthRiddles x = kinds(4);
        // Saying 3 fits thing 2 alone, by a turned sense; saying 5 fits it by sense 0.
        due("fewest, and most turns", x.made(2, 6), 8);
        x.saying(FIGHTING, 0, 0);
        due("of like ones least bits", x.made(2, 6), 8);
        MouthRiddles y = Fires.empty();
        y.thing(3);
        y.sense(0, 0);
        y.sense(1, 2);
        y.sense(1, 1);
        y.saying(SAYING, 0, 0);
        y.saying(SAYING, 1, 0);
        y.saying(BORROWED, 1, 0);
        due("most turns, though greater bits", y.made(0, 6), 2);
        MouthRiddles pairs = Fires.empty();
        // Sayings 0 and 3 leave thing 0 alone, and so do 1 and 2; no other two do.
        for (int traits : new int[] {15, 3, 5, 10, 12}) pairs.thing(traits);
        for (int word = 0; word < 4; word++) {
            pairs.sense(word, word);
            pairs.saying(SAYING, word, 0);
        }
        due("of like pairs least bits, not the first saying", pairs.made(0, 6), 6);
        pairs.saying(KNOWN, 0, 0);
        due("one saying, though it turns nothing", pairs.made(0, 6), 16);
    }

    private static void madeOfTwenty() {
        says(TERMS, "of all sets of told SAYINGS (one at least) for which it is the only THING that all FIT");
        MouthRiddles x = Fires.empty();
        x.thing(3);
        x.thing(1);
        x.sense(0, 0);
        x.sense(1, 1);
        for (int i = 0; i < 19; i++) x.saying(SAYING, 0, 0);
        x.saying(SAYING, 1, 0);
        due("all twenty fit, the last alone parts", x.made(0, 6), 1 << 19);
        due("nineteen fit, none parts", x.made(1, 6), NONE);
        x.thing(3);
        due("all twenty fit, none parts", x.made(0, 6), NONE);
        due("all twenty fit, none parts, one at most", x.made(0, 1), NONE);
    }

    /** All sayings fit thing 0; 0 and 4 fit thing 1, too, 1 to 3 thing 2, 5 thing 3; and 2 to 5 fit by turned senses. */
    private static void madeOfMostTurns() {
        says(TERMS, "of like ones of most TURNS; of like ones of least bits.");
        MouthRiddles x = Fires.empty();
        x.thing(127);
        x.thing(1);
        x.thing(2 | 4 | 8);
        x.thing(32);
        x.sense(0, 0);
        x.sense(1, 1);
        x.sense(2, 9);
        x.sense(2, 2);
        for (int word = 0; word < 3; word++) x.saying(SAYING, word, 0);
        due("saying 0 and the turned one, of two", x.made(0, 6), 5);
        x.saying(BORROWED, 2, 0);
        due("of two turned ones the lesser", x.made(0, 6), 5);
        x.sense(4, 10);
        x.sense(4, 0);
        x.saying(SAYING, 4, 0);
        due("both turned", x.made(0, 6), 20);
        x.sense(5, 11);
        x.sense(5, 5);
        x.saying(SAYING, 5, 0);
        due("both turned, in several ways", x.made(0, 6), 20);
        due("one is too few", x.made(0, 1), NONE);
    }

    private static void madeRefused() {
        says(15, "UNKNOWN");
        refused(Fires::empty, "made(0, 1)", o -> o.made(0, 1), UNKNOWN);
        for (int thing : NO_THING_OF_SOME) {
            refused(Fires::some, "made(" + thing + ", 1)", o -> o.made(thing, 1), UNKNOWN);
            refused(Fires::some, "made(" + thing + ", 0), outside, too", o -> o.made(thing, 0), UNKNOWN);
        }
        for (int thing : new int[] {-1, 12, MIN, MAX}) {
            refused(Fires::full, "made(" + thing + ", 1), done 20 times", o -> o.made(thing, 1), UNKNOWN);
            refused(Fires::full, "made(" + thing + ", 7), outside, done 20 times", o -> o.made(thing, 7), UNKNOWN);
        }
        says(15, "OUTSIDE");
        for (int k : new int[] {-1, 0, 7, MIN, MAX}) {
            refused(Fires::some, "made(0, " + k + ")", o -> o.made(0, k), OUTSIDE);
            refused(Fires::full, "made(0, " + k + "), done 20 times", o -> o.made(0, k), OUTSIDE);
        }
    }

    private static void madeTwenty() {
        says(15, "STATE: it was done 20 times.");
        for (int k = 1; k <= 6; k++) {
            int most = k;
            refused(Fires::full, "made(11, " + k + "), the 21st time", o -> o.made(11, most), STATE);
        }
        MouthRiddles x = needing(6);
        for (int i = 0; i < 20; i++) {
            due("made(7, 1), unknown", x.made(7, 1), UNKNOWN);
            due("made(6, 7), outside", x.made(6, 7), OUTSIDE);
            due("count(8) ahead of made()", x.count(8), i);
            due("made()", x.made(6, i % 2 == 0 ? 6 : 5), i % 2 == 0 ? 63 : NONE);
        }
        due("the 21st time", x.made(6, 6), STATE);
        due("count(8)", x.count(8), 20);
        due("another object's first time", needing(6).made(0, 6), 126);
    }
}
