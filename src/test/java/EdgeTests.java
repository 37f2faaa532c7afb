/** The boundary cases of the terms and of promises 1 to 30. */
final class EdgeTests {
    static void run(Check check) {
        TermEdgeTests.run(check);
        ProductEdgeTests.run(check);
        SetEdgeTests.run(check);
        PartingEdgeTests.run(check);
        OrderEdgeTests.run(check);
        CellEdgeTests.run(check);
    }
}
