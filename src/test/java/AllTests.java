/** Runs every test of the project, and ends with exit code 1 if an answer was not as due. */
public final class AllTests {
    private AllTests() {
    }

    public static void main(String[] arguments) throws Exception {
        FaceAndFlatTest.run();
        SpaceAndPressTest.run();
        ShopTest.run();
        PartEdges.run();
        FlatEdges.run();
        SpaceEdges.run();
        PressEdges.run();
        TurretEdges.run();
        SheetEdges.run();
        LotEdges.run();
        FigureEdges.run();
        WildTest.run();
        String program = arguments.length > 0 ? arguments[0] : "src/main/java/BendTable.java";
        LanguageTest.run(program);
        // A java without its compiler can't read the program as the compiler does.
        if (ModuleLayer.boot().findModule("jdk.compiler").isPresent()) {
            RulesTest.run(program);
        } else {
            System.out.println("RulesTest needs the module jdk.compiler: not run");
        }
        ModelTest.run();
        System.out.println(Check.made + " answers looked at, " + Check.wrong + " not as due");
        if (Check.wrong > 0) {
            System.exit(1);
        }
    }
}
