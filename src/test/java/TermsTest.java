import java.util.List;

/**
 * Each sentence of the document's head "Terms", quoted, with the cases at its bounds. That no sentence is left out is
 * read out of the document.
 */
public final class TermsTest {
    public static void main(String[] args) {
        TermsOfStage.run();
        TermsOfEpic.run();
        TermsOfNight.run();
        TermsOfVoices.run();
        TermsOfMusic.run();
        TermsOfWhatIsLeft.run();
        Document.closeSentences("Terms", "<p>Examples:", List.of("The class is not thread-safe", "Persons and figures.",
                "Episodes.", "Voices.", "Music.", "What is left.", "The radio.", "Exceptions."));
        Script.close("TermsTest");
    }
}
