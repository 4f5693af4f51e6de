import java.util.ArrayList;
import java.util.List;

/** Objects in told states, and all that one can be asked for. An object is good for 512 calls, both together. */
final class Fires {
    static final String LARGEST = "(((a,b),(c,d)),((e,f),(g,h)))";

    private Fires() {
    }

    static MouthRiddles empty() {
        return new MouthRiddles();
    }

    /** Something of all there is, and room for one more of each. */
    static MouthRiddles some() {
        MouthRiddles x = new MouthRiddles();
        for (int traits : new int[] {1, 2, 7, 0, 16777215}) x.thing(traits);
        for (int trait = 0; trait < 3; trait++) x.sense(0, trait);
        x.sense(1, 3);
        x.sense(15, 23);
        x.sense(15, 0);
        for (int kind = 0; kind < 6; kind++) x.saying(kind, 0, kind);
        x.saying(1, 15, 0);
        for (int saying = 0; saying < 7; saying++) x.riddle(saying);
        x.more(0, 2);
        x.more(2, 3);
        x.head(3, 10);
        x.head(0, 7);
        x.head(2, 0);
        x.tongue();
        x.tongue();
        x.lack(1, 0, 1, true);
        x.lack(0, 15, 2, true);
        write(x, "((a,b),c,d)");
        x.tree();
        for (int land = 0; land < 7; land++) x.variant(land, land % 3);
        write(x, "(h,(e");
        x.stake(0, 0, 7);
        x.stake(1, 2, 999);
        x.made(1, 2);
        x.made(2, 6);
        x.chance(0);
        return x;
    }

    /** Nothing more goes in, and made() and chance() have been done as often as they may be. */
    static MouthRiddles full() {
        MouthRiddles x = new MouthRiddles();
        for (int thing = 0; thing < 12; thing++) x.thing(1 << thing | 1 << 2 * thing);
        for (int i = 0; i < 20; i++) x.made(11, 6);
        for (int word = 0; word < 16; word++) {
            for (int i = 0; i < 3; i++) x.sense(word, (word + 5 * i) % 24);
        }
        for (int saying = 0; saying < 20; saying++) x.saying(saying % 6, saying % 16, saying);
        for (int riddle = 0; riddle < 10; riddle++) x.riddle(2 * riddle + 1);
        for (int i = 1; i < 6; i++) x.more(0, 2 * i);
        for (int i = 1; i < 6; i++) x.more(9, 19);
        for (int head = 0; head < 6; head++) x.head(head, 5 * head);
        for (int tongue = 0; tongue < 4; tongue++) x.tongue();
        for (int tongue = 0; tongue < 4; tongue++) x.lack(tongue, 5 * tongue, tongue % 3, true);
        x.letters('a');
        x.tree();
        for (int i = 0; i < 12; i++) x.chance(1);
        write(x, LARGEST);
        x.tree();
        for (int land = 0; land < 8; land++) x.variant(land, land);
        write(x, LARGEST + "(((((((((((");
        for (int head = 0; head < 6; head++) x.stake(head, 9 - head, 999 - head);
        return x;
    }

    static void write(MouthRiddles x, String text) {
        for (int i = 0; i < text.length(); i += 8) x.letters(word(text.substring(i, Math.min(text.length(), i + 8))));
    }

    /** Up to eight letters, as the call letters() takes them. */
    static long word(String letters) {
        long w = 0;
        for (int i = 0; i < letters.length(); i++) w |= (long) letters.charAt(i) << 8 * i;
        return w;
    }

    static MouthRiddles ofPage(String text) {
        MouthRiddles x = new MouthRiddles();
        write(x, text);
        return x;
    }

    /** With a tree, and variants of lands from a on. */
    static MouthRiddles ofTree(String text, int... variants) {
        MouthRiddles x = ofPage(text);
        x.tree();
        for (int land = 0; land < variants.length; land++) x.variant(land, variants[land]);
        return x;
    }

    static boolean hasSense(MouthRiddles x, int word, int trait) {
        for (int i = 0; i < 3; i++) if (trait >= 0 && x.senseOf(word, i) == trait) return true;
        return false;
    }

    /** All that calls tell of an object; it is spent then, as what digest() leaves out shows only by changes. */
    static List<Long> allOf(MouthRiddles x) {
        List<Long> all = new ArrayList<>();
        all.add(x.digest());
        for (int what = 0; what < 10; what++) all.add((long) x.count(what));
        for (int what = 0; what < 2; what++) all.add((long) x.parts(what));
        for (int head = MouthRiddles.NONE; head < 6; head++) all.add((long) x.whom(head));
        all.add((long) x.fault());
        for (int tongue = 0; tongue < 4; tongue++) {
            for (int i = 0; i < 48; i++) all.add((long) x.lack(tongue, i / 3, i % 3, false));
        }
        addOneMore(x, all);
        return all;
    }

    private static void addOneMore(MouthRiddles x, List<Long> all) {
        all.add((long) x.thing(5));
        all.add((long) x.sense(2, 7));
        all.add((long) x.saying(0, 2, 0));
        all.add((long) x.riddle(0));
        all.add((long) x.more(1, 0));
        all.add((long) x.head(1, 1));
        all.add((long) x.tongue());
        all.add((long) x.made(0, 6));
        all.add((long) x.chance(0));
        all.add((long) x.tree());
        all.add((long) x.letters(','));
        all.add(x.digest());
        all.add((long) x.blank());
    }
}
