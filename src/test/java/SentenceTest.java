import java.io.IOException;

/** Each sentence of the document that names a case has a test of its own. */
public final class SentenceTest {
    public static void main(String[] args) throws IOException {
        TermSentences.read();
        RoomSentences.read();
        DaySentences.read();
        RollSentences.read();
        PlaceSentences.read();
        WholeSentences.read();
        RefusalSentences.read();
        Reading.end();
    }
}
