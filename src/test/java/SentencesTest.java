import java.io.IOException;

/** Each sentence of the document, the Terms and promises 1 to 39, has a test of its own. */
public final class SentencesTest {
    public static void main(String[] args) throws IOException {
        Due due = new Due("SentencesTest");
        Words words = new Words(due);
        new EdgesOfTexts(words).all();
        new EdgesOfRounds(words).all();
        new EdgesOfStates(words).all();
        new EdgesOfBroken(words).all();
        new EdgesOfActs(words).all();
        words.end();
        due.end();
    }
}
