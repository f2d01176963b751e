/** Runs every test of the project; its arguments are the paths of Nearplaces.java and README.md. */
final class AllTests {
    private AllTests() {
    }

    public static void main(String[] args) {
        FaceTests.run();
        LanguageTests.run(args[0]);
        ReadmeTests.run(args[1]);
        PromiseTests.run();
        NumberBoundaryTests.run();
        CellBoundaryTests.run();
        StepBoundaryTests.run();
        SearchBoundaryTests.run();
        ThrowBoundaryTests.run();
        ArgumentBoundaryTests.run();
        AnswerBoundaryTests.run();
        QuestionBoundaryTests.run();
        WholeBoundaryTests.run();
        SoundnessTests.run();
        ModelTests.run();
        if (!Check.tell()) {
            System.exit(1);
        }
    }
}
