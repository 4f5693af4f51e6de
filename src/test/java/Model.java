import java.util.ArrayList;
import java.util.Arrays;
import java.util.HashMap;
import java.util.List;
import java.util.Map;

/**
 * The document read word by word and answered by trying everything out: each second by itself, each set of
 * sayings, each order of a deal, each way to ask. Slow, and written apart from the program, so that a slip in
 * one of them shows.
 */
final class Model {
    static final int NONE = -1, UNKNOWN = -101, OUTSIDE = -102, STATE = -103, FULL = -104;

    interface Seen { boolean sees(int word, int i); }

    static final class Saying {
        final int kind, word, n;
        Saying(int kind, int word, int n) { this.kind = kind; this.word = word; this.n = n; }
    }

    static final class Node {
        int number, land = NONE;
        final List<Node> kids = new ArrayList<>();
    }

    final List<Integer> things = new ArrayList<>();
    final List<List<Integer>> words = new ArrayList<>();
    final List<Saying> sayings = new ArrayList<>();
    final List<List<Integer>> riddles = new ArrayList<>();
    final List<int[]> heads = new ArrayList<>();
    final List<boolean[][]> tongues = new ArrayList<>();
    String page = "";
    String treeText = null;
    Node root = null;
    int nodes = 0;
    final int[] variants = new int[8];
    final int[][] stakes = new int[6][10];
    int madeDone = 0, chanceDone = 0;
    private final Map<String, int[]> chances = new HashMap<>();

    Model() {
        for (int i = 0; i < 16; i++) words.add(new ArrayList<>());
        Arrays.fill(variants, NONE);
    }

    static boolean in(int x, List<?> list) { return x >= 0 && x < list.size(); }

    int thing(int traits) {
        if (traits < 0 || traits > 16777215) return OUTSIDE;
        if (things.size() == 12) return FULL;
        things.add(traits);
        return things.size() - 1;
    }

    int sense(int word, int trait) {
        if (!in(word, words)) return UNKNOWN;
        if (trait < 0 || trait > 23 || words.get(word).contains(trait)) return OUTSIDE;
        if (words.get(word).size() == 3) return FULL;
        words.get(word).add(trait);
        return words.get(word).size();
    }

    int senseOf(int word, int i) {
        if (!in(word, words)) return UNKNOWN;
        return in(i, words.get(word)) ? words.get(word).get(i) : NONE;
    }

    int saying(int kind, int word, int n) {
        if (kind < 0 || kind > 5 || n < 0 || n > 23) return OUTSIDE;
        if (!in(word, words)) return UNKNOWN;
        if (sayings.size() == 20) return FULL;
        sayings.add(new Saying(kind, word, n));
        return sayings.size() - 1;
    }

    int as(int saying, int kind) {
        if (!in(saying, sayings)) return UNKNOWN;
        if (kind < 0 || kind > 5) return OUTSIDE;
        int own = sayings.get(saying).kind;
        if (kind == 0 || own == kind) return saying;
        return own == 3 && kind == 2 ? saying : NONE;
    }

    boolean has(int thing, int trait) { return (things.get(thing) & 1 << trait) != 0; }

    int by(int saying, int thing, Seen seen) {
        Saying s = sayings.get(saying);
        if (s.kind == 5) return thing == s.n ? 0 : NONE;
        List<Integer> senses = words.get(s.word);
        for (int i = 0; i < senses.size(); i++) {
            if (!has(thing, senses.get(i)) || !seen.sees(s.word, i)) continue;
            if (s.kind == 1 && i != 0) continue;
            if ((s.kind == 2 || s.kind == 3) && i == 0) continue;
            if (s.kind == 3 && has(thing, senses.get(0))) continue;
            if (s.kind == 4 && Integer.bitCount(things.get(thing)) < s.n) continue;
            return i;
        }
        return NONE;
    }

    int by(int saying, int thing) { return by(saying, thing, (w, i) -> true); }

    boolean fitAll(List<Integer> row, int thing, Seen seen) {
        for (int s : row) if (by(s, thing, seen) == NONE) return false;
        return true;
    }

    int answersOf(List<Integer> row, Seen seen) {
        int bits = 0;
        for (int t = 0; t < things.size(); t++) if (fitAll(row, t, seen)) bits |= 1 << t;
        return bits;
    }

    int fits(int saying, int thing) {
        if (!in(saying, sayings) || !in(thing, things)) return UNKNOWN;
        return by(saying, thing);
    }

    int riddle(int saying) {
        if (!in(saying, sayings)) return UNKNOWN;
        if (riddles.size() == 10) return FULL;
        riddles.add(new ArrayList<>(List.of(saying)));
        return riddles.size() - 1;
    }

    int more(int riddle, int saying) {
        if (!in(riddle, riddles) || !in(saying, sayings)) return UNKNOWN;
        if (riddles.get(riddle).size() == 6) return FULL;
        riddles.get(riddle).add(saying);
        return riddles.get(riddle).size();
    }

    int said(int riddle, int i) {
        if (!in(riddle, riddles)) return UNKNOWN;
        return in(i, riddles.get(riddle)) ? riddles.get(riddle).get(i) : NONE;
    }

    int answers(int riddle) {
        if (!in(riddle, riddles)) return UNKNOWN;
        return answersOf(riddles.get(riddle), (w, i) -> true);
    }

    int turns(int riddle, int thing) {
        if (!in(riddle, riddles) || !in(thing, things)) return UNKNOWN;
        if ((answers(riddle) & 1 << thing) == 0) return NONE;
        int sum = 0;
        for (int s : riddles.get(riddle)) if (by(s, thing) > 0) sum++;
        return sum;
    }

    int judge(int riddle, int a, int b) {
        if (!in(riddle, riddles) || !in(a, things) || !in(b, things)) return UNKNOWN;
        int ta = turns(riddle, a), tb = turns(riddle, b);
        if (ta == NONE && tb == NONE) return NONE;
        if (ta == NONE) return b;
        if (tb == NONE) return a;
        return ta < tb ? a : tb < ta ? b : Math.min(a, b);
    }

    int astray(int riddle, int what) {
        if (!in(riddle, riddles)) return UNKNOWN;
        if (what != 0 && what != 1) return OUTSIDE;
        int place = NONE, most = NONE;
        for (int i = 0; i < riddles.get(riddle).size(); i++) {
            List<Integer> rest = new ArrayList<>(riddles.get(riddle));
            rest.remove(i);
            int n = Integer.bitCount(answersOf(rest, (w, j) -> true));
            if (n > most) { most = n; place = i; }
        }
        return what == 0 ? place : most;
    }

    int made(int thing, int k) {
        if (!in(thing, things)) return UNKNOWN;
        if (k < 1 || k > 6) return OUTSIDE;
        if (madeDone == 20) return STATE;
        madeDone++;
        int[] fit = new int[sayings.size()], turned = new int[sayings.size()];
        for (int s = 0; s < fit.length; s++) {
            fit[s] = answersOf(List.of(s), (w, i) -> true);
            turned[s] = by(s, thing) > 0 ? 1 : 0;
        }
        int best = NONE, size = 99, turns = NONE;
        for (int set = 1; set < 1 << fit.length; set++) {
            int n = Integer.bitCount(set);
            if (n > k || n > size) continue;
            int left = -1, t = 0;
            for (int s = 0; s < fit.length; s++) if ((set & 1 << s) != 0) { left &= fit[s]; t += turned[s]; }
            if (left == 1 << thing && (n < size || t > turns)) { best = set; size = n; turns = t; }
        }
        return best;
    }

    int head(int plain, int turned) {
        if (plain < 0 || plain > 99 || turned < 0 || turned > 99) return OUTSIDE;
        if (heads.size() == 6) return FULL;
        heads.add(new int[] {plain, turned});
        return heads.size() - 1;
    }

    int[] heard(int head, int riddle) {
        int[] h = heads.get(head);
        String before = "";
        for (int second = 0; second <= 600; second++) {
            int now = second;
            String seen = "" + (h[0] <= now) + (h[1] + h[0] <= now) + (2 * h[1] + h[0] <= now);
            if (seen.equals(before)) continue;
            before = seen;
            int bits = answersOf(riddles.get(riddle), (w, i) -> i * h[1] + h[0] <= now);
            if (Integer.bitCount(bits) == 1) return new int[] {Integer.numberOfTrailingZeros(bits), second};
        }
        return new int[] {NONE, NONE};
    }

    int hears(int head, int riddle, int what) {
        if (!in(head, heads) || !in(riddle, riddles)) return UNKNOWN;
        if (what != 0 && what != 1) return OUTSIDE;
        return heard(head, riddle)[what];
    }

    int parts(int what) {
        if (what != 0 && what != 1) return OUTSIDE;
        int best = NONE, most = NONE;
        for (int r = 0; r < riddles.size(); r++) {
            int pairs = 0;
            int[] said = new int[heads.size()];
            for (int h = 0; h < said.length; h++) said[h] = heard(h, r)[0];
            for (int a = 0; a < said.length; a++) for (int b = a + 1; b < said.length; b++) if (said[a] != said[b]) pairs++;
            if (pairs > most) { most = pairs; best = r; }
        }
        return what == 0 ? best : most;
    }

    int blind(int riddle, int thing) {
        if (!in(riddle, riddles) || !in(thing, things)) return UNKNOWN;
        int n = 0;
        for (int h = 0; h < heads.size(); h++) if (heard(h, riddle)[0] != thing) n++;
        return n;
    }

    int tongue() {
        if (tongues.size() == 4) return FULL;
        tongues.add(new boolean[16][3]);
        return tongues.size() - 1;
    }

    int lack(int tongue, int word, int i, boolean is) {
        if (!in(tongue, tongues) || !in(word, words)) return UNKNOWN;
        if (i < 0 || i > 2) return OUTSIDE;
        int was = tongues.get(tongue)[word][i] ? 1 : 0;
        tongues.get(tongue)[word][i] = is;
        return was;
    }

    int goes(int riddle, int thing, int tongue, int what) {
        if (!in(riddle, riddles) || !in(thing, things) || !in(tongue, tongues)) return UNKNOWN;
        if (what != 0 && what != 1) return OUTSIDE;
        boolean[][] lacks = tongues.get(tongue);
        Seen seen = (w, i) -> !lacks[w][i];
        if (what == 0) return answersOf(riddles.get(riddle), seen) == 1 << thing ? 1 : 0;
        int n = 0;
        for (int s : riddles.get(riddle)) if (by(s, thing, seen) == NONE) n++;
        return n;
    }

    int nearest(int riddle, int thing) {
        if (!in(riddle, riddles) || !in(thing, things)) return UNKNOWN;
        int best = NONE;
        for (int t = 0; t < tongues.size(); t++) {
            if (best == NONE || goes(riddle, thing, t, 1) < goes(riddle, thing, best, 1)) best = t;
        }
        return best;
    }

    int letters(long w) {
        StringBuilder more = new StringBuilder();
        boolean ended = false;
        for (int i = 0; i < 8; i++) {
            long b = w >>> 8 * i & 255;
            if (b > 126 || ended && b != 0) return OUTSIDE;
            if (b == 0) ended = true;
            else more.append((char) b);
        }
        if (page.length() + more.length() > 40) return FULL;
        page += more;
        return page.length();
    }

    int blank() {
        int n = page.length();
        page = "";
        return n;
    }

    /** A recursive reader that tells where it stuck, and whether it stuck for want of letters. */
    static final class Reader {
        final String text;
        int at = 0, numbered = 0;
        String used = "";
        boolean stuck = false;
        Reader(String text) { this.text = text; }

        Node node() {
            Node n = new Node();
            if (at >= text.length()) { stuck = true; return n; }
            char c = text.charAt(at);
            n.number = numbered++;
            if (c >= 'a' && c <= 'h' && used.indexOf(c) < 0) {
                used += c;
                n.land = c - 'a';
                at++;
                return n;
            }
            if (c != '(') { stuck = true; return n; }
            at++;
            for (int kids = 1; kids <= 4; kids++) {
                n.kids.add(node());
                if (stuck) return n;
                if (at < text.length() && text.charAt(at) == ')' && kids >= 2) { at++; return n; }
                if (at < text.length() && text.charAt(at) == ',' && kids < 4) { at++; continue; }
                stuck = true;
                return n;
            }
            return n;
        }
    }

    int fault() {
        Reader r = new Reader(page);
        r.node();
        return r.at;
    }

    int tree() {
        Reader r = new Reader(page);
        Node n = r.node();
        if (r.stuck || r.at < page.length()) return STATE;
        root = n;
        nodes = r.numbered;
        treeText = page;
        page = "";
        return nodes;
    }

    int variant(int land, int v) {
        if (land < 0 || land > 7) return UNKNOWN;
        if (v < -1 || v > 7) return OUTSIDE;
        int was = variants[land];
        variants[land] = v;
        return was;
    }

    /** Least changes over all ways, or over those alone in which node number forced has variant own. */
    int least(int[] of, int forced, int own) {
        int[][] known = new int[nodes][8];
        fill(root, of, forced, own, known);
        return Arrays.stream(known[root.number]).min().getAsInt();
    }

    private void fill(Node n, int[] of, int forced, int own, int[][] known) {
        for (Node kid : n.kids) fill(kid, of, forced, own, known);
        for (int v = 0; v < 8; v++) {
            int sum = n.number == forced && v != own ? 9999 : 0;
            if (n.land != NONE && of[n.land] != NONE && of[n.land] != v) sum = 9999;
            for (Node kid : n.kids) {
                int least = 9999;
                for (int w = 0; w < 8; w++) least = Math.min(least, known[kid.number][w] + (w == v ? 0 : 1));
                sum += least;
            }
            known[n.number][v] = sum;
        }
    }

    int changes(int what) {
        if (what != 0 && (what < 10 || what > 39)) return OUTSIDE;
        if (root == null) return STATE;
        int least = least(variants, NONE, NONE);
        if (what == 0) return least;
        if (what - 10 >= nodes) return NONE;
        int sure = NONE;
        for (int v = 0; v < 8; v++) {
            if (least(variants, what - 10, v) != least) continue;
            if (sure != NONE) return NONE;
            sure = v;
        }
        return sure;
    }

    int chance(int part) {
        if (part != 0 && part != 1) return OUTSIDE;
        if (root == null || chanceDone == 12) return STATE;
        chanceDone++;
        int[] share = chances.computeIfAbsent(treeText + Arrays.toString(variants), key -> shareByChance());
        return share[part];
    }

    private int[] shareByChance() {
        List<Integer> lands = new ArrayList<>();
        for (int land = 0; land < 8; land++) {
            if (variants[land] != NONE && treeText.indexOf('a' + land) >= 0) lands.add(land);
        }
        int[] share = new int[2];
        order(lands, 0, new boolean[8], variants.clone(), least(variants, NONE, NONE), share);
        int g = share[1];
        while (share[0] % g != 0 || share[1] % g != 0) g--;
        return new int[] {share[0] / g, share[1] / g};
    }

    private void order(List<Integer> lands, int at, boolean[] given, int[] dealt, int bound, int[] share) {
        if (at == lands.size()) {
            share[1]++;
            if (least(dealt, NONE, NONE) <= bound) share[0]++;
            return;
        }
        for (int i = 0; i < lands.size(); i++) {
            if (given[i]) continue;
            given[i] = true;
            dealt[lands.get(at)] = variants[lands.get(i)];
            order(lands, at + 1, given, dealt, bound, share);
            given[i] = false;
        }
    }

    int stake(int head, int riddle, int v) {
        if (!in(head, heads) || !in(riddle, riddles)) return UNKNOWN;
        if (v < 0 || v > 999) return OUTSIDE;
        int was = stakes[head][riddle];
        stakes[head][riddle] = v;
        return was;
    }

    private int most;
    private int[] bestAsked;

    int whom(int head) {
        if (head != NONE && !in(head, heads)) return UNKNOWN;
        most = NONE;
        ask(0, new boolean[10], new int[6], 0);
        return head == NONE ? most : bestAsked[head];
    }

    /** Ways come in the order that the document likes: least riddles first, none behind all. */
    private void ask(int head, boolean[] taken, int[] asked, int sum) {
        if (head == heads.size()) {
            if (sum > most) { most = sum; bestAsked = asked.clone(); }
            return;
        }
        for (int r = 0; r < riddles.size(); r++) {
            if (taken[r]) continue;
            taken[r] = true;
            asked[head] = r;
            ask(head + 1, taken, asked, sum + stakes[head][r]);
            taken[r] = false;
        }
        asked[head] = NONE;
        ask(head + 1, taken, asked, sum);
    }

    int count(int what) {
        int senses = 0;
        for (List<Integer> w : words) senses += w.size();
        int[] all = {things.size(), senses, sayings.size(), riddles.size(), heads.size(), tongues.size(), nodes, page.length(), madeDone, chanceDone};
        return what < 0 || what > 9 ? OUTSIDE : all[what];
    }

    long digest() {
        List<Integer> told = new ArrayList<>(things);
        for (List<Integer> w : words) told.addAll(w);
        for (int s = 0; s < sayings.size(); s++) {
            told.addAll(List.of(sayings.get(s).kind, sayings.get(s).word, sayings.get(s).n));
            for (int t = 0; t < things.size(); t++) told.add(by(s, t));
        }
        for (int r = 0; r < riddles.size(); r++) {
            told.addAll(riddles.get(r));
            told.add(answers(r));
            for (int h = 0; h < heads.size(); h++) {
                int[] heard = heard(h, r);
                told.addAll(List.of(heard[0], heard[1], stakes[h][r]));
            }
        }
        for (int t = 0; t < tongues.size() && !things.isEmpty(); t++) {
            for (int r = 0; r < riddles.size(); r++) told.addAll(List.of(goes(r, 0, t, 0), goes(r, 0, t, 1)));
        }
        for (int v : variants) told.add(v);
        if (root != null) {
            told.add(changes(0));
            for (int i = 0; i < nodes; i++) told.add(changes(10 + i));
        }
        for (char c : page.toCharArray()) told.add((int) c);
        for (int what = 0; what < 10; what++) told.add(count(what));
        long h = 349;
        for (int x : told) h = 31 * h + x;
        return h;
    }
}
