/** Each sentence of the document that can be broken, with cases of its own. */
public final class SentencesTest {
    public static void main(String[] args) throws Exception {
        Checks checks = new Checks();
        Story story = new Story(checks);
        TermsCases.tell(story);
        StepCases.tell(story);
        ObjectCases.tell(story);
        QuestionCases.tell(story);
        StepCases.twoObjects(checks);
        Document.compare(checks, story.told());
        checks.end();
    }
}
