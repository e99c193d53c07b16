import java.io.IOException;

/** Each sentence of the document that names a bound has a test of its own, told by its own words. */
public final class SentencesTest {
    public static void main(String[] args) throws IOException {
        EdgesOfTerms.all();
        EdgesOfTexts.all();
        EdgesOfLooks.all();
        EdgesOfHours.all();
        EdgesOfDays.all();
        EdgesOfWays.all();
        EdgesOfLayouts.all();
        EdgesOfChance.all();
        EdgesOfLoans.all();
        EdgesOfKept.all();
        Doc.compare();
        Check.finish();
    }
}
