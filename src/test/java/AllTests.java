/** Runs every test of the project; its argument is the path of Nearplaces.java. */
final class AllTests {
    private AllTests() {
    }

    public static void main(String[] args) {
        FaceTests.run();
        LanguageTests.run(args[0]);
        PromiseTests.run();
        NumberBoundaryTests.run();
        CellBoundaryTests.run();
        StepBoundaryTests.run();
        SearchBoundaryTests.run();
        ThrowBoundaryTests.run();
        ArgumentBoundaryTests.run();
        AnswerBoundaryTests.run();
        QuestionBoundaryTests.run();
        WholeBoundaryTests.run();
        SoundnessTests.run();
        ModelTests.run();
        if (!Check.tell()) {
            System.exit(1);
        }
    }
}
