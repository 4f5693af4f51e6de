import java.io.IOException;

/** Boundary cases, sentence by sentence of the document; tells of sentences that no test is told for, too. */
public final class BoundsTest {
    public static void main(String[] args) throws IOException {
        BoundsOfLore.all();
        BoundsOfRiddles.all();
        BoundsOfHeads.all();
        BoundsOfLands.all();
        BoundsOfStakes.all();
        BoundsOfRefusals.all();
        int wrong = Bounds.close();
        System.out.println(wrong == 0 ? "BoundsTest: all answers are as due" : "BoundsTest: " + wrong + " answers are not as due");
        if (wrong != 0) System.exit(1);
    }
}
