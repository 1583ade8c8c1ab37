/** The example of README.md, line by line: it must answer what README.md says it answers. */
public final class PatternLoomReadme extends LoomTest {
    public static void main(String[] args) {
        part = "README.md, the example";
        PatternLoom loom = new PatternLoom();
        int stripes = loom.pattern(1, 5, 6, 2);
        int moved = loom.pattern(3, stripes, 1, 0);
        due("stripes", stripes, 0);
        due("moved", moved, 1);
        due("loom.ask(moved, 3, 0)", loom.ask(moved, 3, 0), 6);
        due("loom.weave(moved, 1, 0, 6, 2)", loom.weave(moved, 1, 0, 6, 2), 12);
        dueCloth(loom, 5, 5, 6, 6, 5, 5, 5, 5, 6, 6, 5, 5);
        due("loom.cloth(2)", loom.cloth(2), 6);
        due("loom.changes()", loom.changes(), 4);
        due("loom.most()", loom.most(), 5);

        due("loom.name(2, stripes)", loom.name(2, stripes), 0);
        int named = loom.pattern(9, 2, 10, 0);
        due("loom.ask(named, 2, 0)", loom.ask(named, 2, 0), 16);
        due("loom.name(2, PatternLoom.NONE)", loom.name(2, PatternLoom.NONE), 1);
        due("loom.ask(named, 2, 0)", loom.ask(named, 2, 0), 0);
        due("loom.why()", loom.why(), -13);
        int safe = loom.pattern(12, named, 3, 99);
        due("loom.ask(safe, 2, 0)", loom.ask(safe, 2, 0), 99);
        due("loom.why()", loom.why(), 0);
        due("loom.count(3)", loom.count(3), 3);
        end("the example holds");
    }
}
