/** Plays for the promises that their titles name; see Due for what the lines mean. */
public final class FormulaTest {
    public static void main(String[] arguments) {
        Due.play("Promise 34: without a text, for others", """
            text `a(){}b(){x=1;}` = 2
            bound(0, -1, *) = 1 -1 0 -1
            bound(0, 0, 0) = -1
            bound(1, -1, *) = 1 -1 1
            bound(1, 0, *) = 1 0 0 0 0 -1
            bound(1, 1, 0) = -1
            bound(1, -2, 0) = -1
            bound(1, 0, -1) = -1
            bound(1, -1, -1) = -1
            bound(2, -1, 0) = -1
            bound(-1, -1, 0) = -1
            worst(0, 1, 2, 3, 4) = 0
            worst(1, 1, 2, 3, 4) = 1
            worst(2, 0, 0, 0, 0) = -1
            worst(-1, 0, 0, 0, 0) = -1
            """);
        Due.play("Promise 34: STEPS of each statement", """
            text `a(){x=1;}b(){x=new[1];x[0]=1;b1();}b1(){return 1;}c(){if(1){x=1;x=2;}else{x=3;}}d(){join 1;}e(){lock 1{x=1;}}f(){try{x=1;x=2;}catch e{x=3;}}g(){for i=1 to 4{print i;}}h(){throw 1;}k(){for i=1 to 2{break;}}` = 10
            formulas() = 1 -1 1 / 1 0 0 0 0 / 1 -1 1 / 4 0 0 0 0 / 1 -1 1 / 1 0 0 0 0 / 1 -1 1 / 3 0 0 0 0 / 1 -1 1 / 2 0 0 0 0 / 1 -1 1 / 4 0 0 0 0 / 1 -1 1 / 4 0 0 0 0 / 1 -1 1 / 10 0 0 0 0 / 1 -1 1 / 1 0 0 0 0 / 1 -1 1 / 6 0 0 0 0
            """);
        Due.play("Promise 34: terms in x, in the order of their powers", """
            text `a(p,q,r,s){for i=1 to p{x=1;}for i=0 to q{for j=1 to p{x=1;}}for i=-3 to r+s*2{x=1;}for i=1 to s{for j=1 to s{for k=1 to q{for l=1 to q{x=1;}}}}}` = 1
            formulas() = 1 -1 9 / 19 0 0 0 0 / 7 0 0 0 1 / 3 0 0 0 2 / 2 0 0 1 0 / 3 0 1 0 0 / 3 0 1 0 2 / 2 0 2 0 2 / 4 1 0 0 0 / 2 1 1 0 0
            worst(0, 1, 2, 3, 4) = 339
            worst(0, 0, 0, 0, 0) = 19
            worst(0, -5, 7, -1, 2147483647) = 1000000000000000
            worst(0, 2147483647, 2147483647, 2147483647, 2147483647) = 1000000000000000
            worst(0, -2147483648, 3, 2, 1) = 69
            """);
        Due.play("Promise 35: at most 10 to the 15th; arguments beyond the parameters don't count", """
            text `a(p){for i=1 to p{for j=1 to p{x=1;}}}b(p){for i=1 to p{for j=1 to 1000000{x=1;}}}` = 2
            worst(0, 10, 99, 99, 99) = 232
            worst(0, 22360678, 0, 0, 0) = 999999908321404
            worst(0, 22360680, 0, 0, 0) = 1000000000000000
            worst(0, 30000000, 0, 0, 0) = 1000000000000000
            worst(1, 499, 1, 1, 1) = 998001499
            worst(1, 499999999, 0, 0, 0) = 1000000000000000
            worst(1, 500000000, 0, 0, 0) = 1000000000000000
            worst(1, 2147483647, 0, 0, 0) = 1000000000000000
            """);
        Due.play("Promise 34: UP of each expression", """
            text `a(p){for i=1 to 7{}}b(p){for i=1 to -7{x=1;}}c(p){for i=1 to p{}}d(p){for i=1 to p+3{}}e(p){for i=1 to p-3{}}f(p){for i=1 to p*3{}}g(p){for i=1 to 3*p{}}h(p){for i=1 to p/2{}}j(p){for i=1 to p%5{}}k(p){for i=1 to len p{}}l(p){for i=1 to p<3{}}m(p){for i=1 to p&p{}}n(p){for i=1 to p|p{}}o(p){for i=1 to !p{}}q(p){for i=1 to ((p)){}}r(p){for i=1 to p{for j=1 to i+1{}}}s(p){for i=1 to nil%5{}}t(p){for i=1 to len nil{}}` = 18
            formulas() = 1 -1 1 / 9 0 0 0 0 / 1 -1 1 / 2 0 0 0 0 / 1 -1 2 / 2 0 0 0 0 / 1 1 0 0 0 / 1 -1 2 / 5 0 0 0 0 / 1 1 0 0 0 / 1 -1 2 / 2 0 0 0 0 / 1 1 0 0 0 / 1 -1 2 / 2 0 0 0 0 / 3 1 0 0 0 / 1 -1 2 / 2 0 0 0 0 / 3 1 0 0 0 / 1 -1 2 / 2 0 0 0 0 / 1 1 0 0 0 / 1 -1 1 / 6 0 0 0 0 / 1 -1 1 / 202 0 0 0 0 / 1 -1 1 / 3 0 0 0 0 / 1 -1 1 / 3 0 0 0 0 / 1 -1 1 / 3 0 0 0 0 / 1 -1 1 / 3 0 0 0 0 / 1 -1 2 / 2 0 0 0 0 / 1 1 0 0 0 / 1 -1 3 / 2 0 0 0 0 / 4 1 0 0 0 / 1 2 0 0 0 / 1 -1 1 / 6 0 0 0 0 / 1 -1 1 / 202 0 0 0 0
            """);
        Due.play("Promise 34: what has no UP", """
            text `var v;a(p){for i=1 to v{}}b(p){for i=1 to -p{}}c(p){for i=1 to p*p{}}d(p){for i=1 to p-p{}}e(p){for i=1 to p/0{}}f(p){for i=1 to p%0{}}g(p){for i=1 to p/p{}}h(p){for i=1 to p[1]{}}j(p){for i=1 to nil{}}k(p){for i=1 to new[1]{}}l(p){for i=1 to x{}x=1;}m(p){p=1;for i=1 to p{}}n(p){for i=1 to i{}}o(p){for i=1 to j{}for j=1 to i{}}q(p){for i=1 to 2{}for i=1 to 3{}for j=1 to i{}}r(p){for i=1 to r1(){}}r1(){}s(p){for i=1 to start r1(){}}t(){for i=1 to - -3{}}u(p){try{}catch p{}for i=1 to p{}}` = 20
            formulas() = 0 11 0 / 0 31 0 / 0 52 0 / 0 74 0 / 0 96 0 / 0 118 0 / 0 140 0 / 0 162 0 / 0 185 0 / 0 207 0 / 0 232 0 / 0 260 0 / 0 280 0 / 0 300 0 / 0 362 0 / 0 382 0 / 1 -1 0 / 0 411 0 / 0 439 0 / 0 476 0
            """);
        Due.play("Promise 34: what leans on itself only where it isn't asked for", """
            text `a(p){for i=1 to j%5{}for j=1 to i{}}b(p){for i=1 to len i{}}c(p){for i=1 to j{}for j=1 to k{}for k=1 to p{}}` = 3
            formulas() = 1 -1 1 / 12 0 0 0 0 / 1 -1 1 / 202 0 0 0 0 / 1 -1 2 / 6 0 0 0 0 / 3 1 0 0 0
            """);
        Due.play("Promise 34: TURNS by the first end", """
            text `a(p){for i=0 to p{}}b(p){for i=5 to p{}}c(p){for i=-5 to p{}}d(p){for i=(-(5)) to p{}}e(p){for i=p to p{}}f(p){for i=1+1 to p{}}g(p){for i=-p to p{}}h(p){for i=-0 to p{}}j(p){for i=0 to -9{}}k(p){for i=-(-5) to p{}}` = 10
            formulas() = 1 -1 2 / 3 0 0 0 0 / 1 1 0 0 0 / 1 -1 2 / 2 0 0 0 0 / 1 1 0 0 0 / 1 -1 2 / 8 0 0 0 0 / 1 1 0 0 0 / 1 -1 2 / 8 0 0 0 0 / 1 1 0 0 0 / 0 91 0 / 0 111 0 / 0 133 0 / 1 -1 2 / 3 0 0 0 0 / 1 1 0 0 0 / 1 -1 1 / 3 0 0 0 0 / 0 196 0
            """);
        Due.play("Promise 34: calls with UPs of their arguments, starts don't count", """
            text `a(p,q){b(p,q);}b(p,q){for i=1 to p{for j=0 to q{x=1;}}}c(p){x=b(p+1,2*p)+b(p,0);}d(p){b(0,nil);}e(p){b(nil,0);}f(p){x=start b(p,p);}g(p){x=start b(nil,b(p,p));}h(p){k(nil,p);}k(p,q){for i=1 to q{}}l(p){lock b(1,p){}join b(p,1);return b(2,p);}m(p){b(1,b(p,3)%4);}` = 11
            formulas() = 1 -1 3 / 3 0 0 0 0 / 5 1 0 0 0 / 2 1 1 0 0 / 1 -1 3 / 2 0 0 0 0 / 5 1 0 0 0 / 2 1 1 0 0 / 1 -1 3 / 10 0 0 0 0 / 14 1 0 0 0 / 4 2 0 0 0 / 0 86 0 / 0 101 0 / 1 -1 1 / 1 0 0 0 0 / 1 -1 3 / 3 0 0 0 0 / 5 1 0 0 0 / 2 2 0 0 0 / 1 -1 2 / 3 0 0 0 0 / 1 1 0 0 0 / 1 -1 2 / 2 0 0 0 0 / 1 0 1 0 0 / 1 -1 2 / 27 0 0 0 0 / 13 1 0 0 0 / 1 -1 2 / 16 0 0 0 0 / 11 1 0 0 0
            """);
        Due.play("Promise 34: a term with an x that is 0 is nothing, also where another would pass", """
            text `a(p){b(0,999999999);}b(p,q){for i=1 to p{for j=1 to q{for k=1 to q{x=1;}}}}c(p){b(1,999999999);}` = 3
            formulas() = 1 -1 1 / 3 0 0 0 0 / 1 -1 4 / 2 0 0 0 0 / 3 1 0 0 0 / 3 1 1 0 0 / 2 1 2 0 0 / 0 80 0
            """);
        Due.play("Promise 34: what BARS: while, rings, members without a formula, the first by text", """
            text `a(p){x=1;b(p);while(1){}}b(p){x=1;while(p){for i=1 to nil{}}}c(p){d(p);x=1;}d(p){if(p){x=c(p);}}e(p){x=c(1)+1;}f(p){for i=1 to nil{while(1){}}}g(p){try{while(1){}}catch e{b(1);}}h(p){h(p);}` = 8
            formulas() = 0 9 0 / 0 34 0 / 0 66 0 / 0 87 0 / 0 101 0 / 0 116 0 / 0 152 0 / 0 183 0
            """);
        Due.play("Promise 34: numbers up to 10 to the 12th, in each statement at its node", """
            text `a(){for i=1 to 999999999{for j=1 to 998{print 1;}}}b(){for i=1 to 2000{for j=1 to 249999998{print 1;}}for k=1 to 998{print 1;}}` = 2
            formulas() = 0 4 0 / 1 -1 1 / 1000000000000 0 0 0 0
            text `a(){for i=1 to 2000{for j=1 to 249999998{print 1;}}for k=1 to 998{print 1;}print 2;}b(){for i=1 to 999999999{for j=1 to 999999999{}}}c(p){if(1){for i=1 to 2000{for j=1 to 249999998{print 1;}}for k=1 to 998{print 1;}}}d(){try{for i=1 to 2000{for j=1 to 249999998{print 1;}}for k=1 to 998{print 1;}}catch e{}}` = 4
            formulas() = 0 75 0 / 0 88 0 / 0 138 0 / 0 297 0
            text `a(){x=1;x=b()+b();}b(){for i=1 to 600000000{for j=1 to 499{print 1;}}}c(){x=b();x=2;x=b();}d(p){for i=1 to p*999999999{for j=1 to 999{}}}e(p){for i=1 to p*999999999*1001{}}f(p){for i=1 to p*999999999*1000{}}g(p){for i=-1 to 999999999*1000+999{}}h(p){for i=-2 to 999999999*1000+1000{}}` = 8
            formulas() = 0 8 0 / 1 -1 1 / 600600000002 0 0 0 0 / 0 84 0 / 0 96 0 / 0 142 0 / 1 -1 2 / 2 0 0 0 0 / 999999999000 1 0 0 0 / 0 212 0 / 0 250 0
            """);
        Due.play("Promise 34: a body that is never done matters by what BARS in it alone", """
            text `a(){for z=1 to 0{for i=1 to 2000{for j=1 to 249999998{print 1;}}for k=1 to 998{print 1;}}}b(){for z=1 to -3{while(1){}}}c(p){for z=1 to 0*p{for i=1 to 2000{for j=1 to 249999998{print 1;}}for k=1 to 999{print 1;}}}` = 3
            formulas() = 1 -1 1 / 2 0 0 0 0 / 0 108 0 / 0 187 0
            """);
        Due.play("Promise 34: degree 4 together, not 5", """
            text `a(p,q){for i=1 to p{for j=1 to p{for k=1 to q{for l=1 to q{x=1;}}}}}b(p,q){for i=1 to p{for j=1 to p{for k=1 to q{for l=1 to q{for m=1 to p{}}}}}}c(p){for i=1 to p{a(p,1);}}d(p){for i=1 to p{a(p,p);}}` = 4
            formulas() = 1 -1 5 / 2 0 0 0 0 / 3 1 0 0 0 / 3 2 0 0 0 / 3 2 1 0 0 / 2 2 2 0 0 / 0 75 0 / 1 -1 4 / 2 0 0 0 0 / 4 1 0 0 0 / 3 2 0 0 0 / 8 3 0 0 0 / 0 178 0
            """);
        Due.play("Promise 34: an if takes the greater number of each term", """
            text `a(p,q){if(1){for i=1 to p{x=1;}x=1;x=1;x=1;}else{for i=0 to q{x=1;}for i=1 to p{x=1;x=1;}}}b(p){if(c(p)){x=1;}}c(p){for i=1 to p{}}` = 3
            formulas() = 1 -1 3 / 7 0 0 0 0 / 2 0 1 0 0 / 3 1 0 0 0 / 1 -1 2 / 4 0 0 0 0 / 1 1 0 0 0 / 1 -1 2 / 2 0 0 0 0 / 1 1 0 0 0
            """);
        Due.play("Promise 34: formulas are those of the text, however often it was another one", """
            text `a(){x=1;}` = 1
            formulas() = 1 -1 1 / 1 0 0 0 0
            text `a(){x=1;x=2;}` = 1
            text `a(){x=1;x=2;x=3;}` = 1
            formulas() = 1 -1 1 / 3 0 0 0 0
            bad `a(){` = 1 4
            formulas() = 1 -1 1 / 3 0 0 0 0
            """);
        Due.play("Promise 34: bodies in bodies", """
            text `a(p){for i=1 to p{if(1){x=1;if(2){x=2;x=3;}x=4;}lock 1{try{if(3){x=5;}else{x=6;x=7;}}catch e{for j=1 to 2{x=8;}x=9;}}}}` = 1
            formulas() = 1 -1 2 / 2 0 0 0 0 / 21 1 0 0 0
            """);
        Due.play("Promise 34: what passes as 1 is added to a body, at BEGIN and at LOCK", """
            text `a(){for z=1 to 1{for i=1 to 2000{for j=1 to 249999998{print 1;}}for k=1 to 998{print 1;}}}b(){lock 1{for i=1 to 2000{for j=1 to 249999998{print 1;}}for k=1 to 998{print 1;}}}c(){x=1;try{x=2;}catch e{for i=1 to 2000{for j=1 to 249999998{print 1;}}for k=1 to 998{print 1;}}}` = 3
            formulas() = 0 4 0 / 0 94 0 / 0 191 0
            """);
        Due.play("Promise 34: arguments without UP, of each sort", """
            text `a(p){b(999999999,0);}b(p,q){for i=1 to q{for j=1 to p{for k=1 to p{x=1;}}}}c(p){b(-p,1);}d(p){b(1,-p);}e(p){b(p[1],1);}f(p){b(1,p[1]);}g(p){b(len p,!p);}h(p){b(nil,0);}` = 8
            formulas() = 1 -1 1 / 3 0 0 0 0 / 1 -1 4 / 2 0 0 0 0 / 3 0 1 0 0 / 3 1 1 0 0 / 2 2 1 0 0 / 0 80 0 / 0 94 0 / 0 108 0 / 0 124 0 / 1 -1 1 / 80606 0 0 0 0 / 0 158 0
            """);
        Due.play("Promise 34: a statement without STEPS of its own leaves those around it without any: nothing passes there", """
            text `a(p){for i=1 to p{for j=1 to p{for k=1 to p{for l=1 to p{for m=1 to p{while(1){}}}}}}}b(p){for i=1 to p{for j=1 to p{for k=1 to p{for l=1 to p{for m=1 to p{x=1;}while(1){}}}}}}` = 2
            formulas() = 0 70 0 / 0 161 0
            """);
        Due.end("FormulaTest");
    }
}
