/** Each sentence of the document on its own, at its edges; all its words are quoted (promises 1 to 38). */
public final class EdgesTest {
    public static void main(String[] args) {
        EdgesOfLanguage.run();
        EdgesOfTexts.run();
        EdgesOfLands.run();
        EdgesOfYears.run();
        EdgesOfComing.run();
        EdgesOfSeen.run();
        EdgesOfUndoing.run();
        Doc.end();
        Due.end();
    }
}
