/** Runs every test of the project; ends with exit code 1 if one fails. */
public final class AllTests {
    public static void main(String[] args) {
        Check check = new Check();
        FaceTests.run(check);
        ProductTests.run(check);
        SetTests.run(check);
        PartingTests.run(check);
        OrderTests.run(check);
        CellTests.run(check);
        ThrowingTests.run(check);
        EdgeTests.run(check);
        ReferenceTests.run(check);
        System.out.println("project: " + check.passed() + " passed, " + check.failed() + " failed");
        if (check.failed() > 0) {
            System.exit(1);
        }
    }
}
