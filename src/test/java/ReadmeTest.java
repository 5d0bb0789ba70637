// The example of README.md: each call answers what its comment says.
public final class ReadmeTest extends Checks {
    public static void main(String[] args) {
        under("README", "Using it");
        AlikePosts x = new AlikePosts();
        due(x.post(0), 0);
        due(x.post(0), 1);
        due(x.line(0, 1), 1);
        due(x.chosen(), AlikePosts.NONE);
        due(x.mark(1, 3), 0);
        due(x.chosen(), 0);
        due(x.flood(0, 77L), 1);
        due(x.word(0), 1);
        due(x.lots(3, 1), 6);
        due(x.lots(3, 0), 9);
        due(x.sheet(0, 2, 2), 1);
        due(x.put(0, 1, 1), 1);
        due(x.cell(0, 0, 2), 0);
        due(x.lines(0, 2, 0, 1), 2);
        due(x.put(0, 2, 1), -13);
        due(x.fault(), 3);
        finish("the example of README.md is as it says");
    }
}
