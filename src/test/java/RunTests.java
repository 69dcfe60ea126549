/** Runs all tests of the project, from the project's folder. */
public final class RunTests {
    private RunTests() {
    }

    public static void main(String[] args) {
        ShelvesTest.all();
        FieldTest.all();
        ToldTest.all();
        TruthTest.all();
        MovesTest.all();
        ImageTest.all();
        OracleTest.all();
        TextOracleTest.all();
        ModelTest.all();
        AnyCallsTest.all();
        FaceTest.all();
        EdgesOfFieldTest.all();
        EdgesOfTextTest.all();
        EdgesOfRaceTest.all();
        EdgesOfToldTest.all();
        EdgesOfTruthTest.all();
        EdgesOfPromisesTest.all();
        RefusalsTest.all();
        System.out.println(Check.passed + " tests of the project hold, " + Check.failed + " don't");
        if (Check.failed != 0) {
            System.exit(1);
        }
    }
}
