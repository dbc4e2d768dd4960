/** Promise 5 (rule). */
public final class RuleTest {
    public static void main(String[] args) {
        aRuleIsForFaultsThatCome();
        aRuleIsItsKindsAlone();
        Check.end();
    }

    private static void aRuleIsForFaultsThatCome() {
        RobotFaults x = Check.robots(2);
        x.rule(4, 2, false, 5);
        x.fault(0, 4);
        x.rule(4, 1, true, 1);
        x.fault(1, 4);
        Check.due("rank as it was", x.alarm(0, 2), 5);
        Check.due("rank as it is", x.alarm(1, 2), 1);
        Check.due("test as it was", x.told(0, 4), 0);
        Check.due("test as it is", x.told(1, 4), 1);
        Check.due("persons as it was", x.step(1, 0), 0);
        Check.due("persons as it is", x.step(2, 0), 1);
        x.rule(4, 1, false, 3);
        Check.due("a later rule takes no test away", x.told(1, 4), 1);
        Check.due("a later rule takes no person away", x.known(1, 3), -1);
    }

    private static void aRuleIsItsKindsAlone() {
        for (int kind = 0; kind < 8; kind++) {
            RobotFaults x = Check.robots(1);
            x.load(0, 1);
            x.rule(kind, 2, true, 4);
            for (int each = 0; each < 8; each++) {
                x.fault(0, each);
                Check.due("rank of " + each, x.alarm(each, 2), each == kind ? 4 : 3);
                Check.due("persons of " + each, x.step(each + 1, 3), each == kind ? 0 : 1);
            }
        }
    }
}
